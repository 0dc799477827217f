/-! THE LAW's loop -/
theorem iN_rg (x : Int32) : -2147483648 ≤ x.toInt ∧ x.toInt < 2147483648 := by
  have q1 := Int32.le_toInt x
  have q2 := Int32.toInt_lt x
  omega
theorem am_ar_50 {kr : Nat × Nat} {h : am_H} {L : Nat} (q : h.1 1051 0 = iN (L : Int)) (q_L : L ≤ 2560) : am_ar kr h 1050 = some (L, h.1 1050) := by
  show some ((h.1 1051 0).toNatClampNeg, h.1 1050) = _
  rw [q, iN_clamp (by omega)]
  rfl
theorem am_ln_50 {kr : Nat × Nat} {h : am_H} {L : Nat} (q : h.1 1051 0 = iN (L : Int)) (q_L : L ≤ 2560) : am_ln kr h 1050 = some (L : Int) := by
  show some ((h.1 1051 0).toInt) = _
  rw [q, iN_toInt (by omega)]
theorem lg_self (x : Int64) : lg_cmp x x = 0 := by
  unfold lg_cmp
  simp
theorem sw34 (a : Int) : a = 0 ∨ a = 1 ∨ a = 2 ∨ a = 3 ∨ a = 4 ∨ a = 5 ∨ a = 6 ∨ a = 7 ∨ a = 8 ∨ a = 9 ∨ a = 10 ∨ a = 11 ∨ a = 12 ∨ a = 13 ∨ a = 14 ∨ a = 15 ∨ a = 16 ∨ a = 17 ∨ a = 18 ∨ a = 19 ∨ a = 20 ∨ a = 21 ∨ a = 22 ∨ a = 23 ∨ a = 24 ∨ a = 25 ∨ a = 26 ∨ a = 27 ∨ a = 28 ∨ a = 29 ∨ a = 30 ∨ a = 31 ∨ a = 32 ∨ a = 33 ∨ (a < 0 ∨ 33 < a) := by omega
set_option maxRecDepth 20000 in
set_option maxHeartbeats 40000000 in
theorem jl_law (zd : Nat) (q_d : 9 ≤ zd) {xs : Nat → Int32} {zL : Nat} (q_L : zL ≤ 2560) {zQ : Option Value → am_H → Prop} (zk : ∀ zg : am_H, zQ (some (.int (iN 1))) zg) : ∀ (z_n : Nat) (zg : am_H) (P : zSta) (n : Nat) (zi : Int) (q_P : zPu P) (q_I : zIL n P zg) (q_R : zIR P zg) (q_s : zg.1 1050 = xs) (q_l : zg.1 1051 0 = iN (zL : Int)) (q_i : zi = 5 * (n : Int) ∧ zi ≤ (zL : Int) + 5), (zL : Int) + 6 - zi < (z_n : Int) → am_wp zd am_m_Law_law 18 [(0, .ref 1050), (1, .ref 0), (2, .ref 55), (3, .int (iN (zi)))] [] (78, 76) zg (78, 76) zQ := by
  obtain ⟨zd, rfl⟩ : ∃ y_e, zd = y_e + 9 := ⟨zd - 9, by omega⟩
  intro z_n
  induction z_n with
  | zero => intro zg P n zi q_P q_I q_R q_s q_l q_i q_m; omega
  | succ z_n z_ih =>
    intro zg P n zi q_P q_I q_R q_s q_l q_i q_m
    refine wp_run (k := 2) (pc1 := 20) (l1 := [(0, .ref 1050), (1, .ref 0), (2, .ref 55), (3, .int (iN (zi)))]) (st1 := [.ref 1050, .int (iN (zi))]) (kr1 := (78, 76)) (h1 := zg) rfl ?_
    refine wp_alen (v := (zL : Int)) rfl (am_ln_50 q_l q_L) ?_
    refine wp_run (k := 2) (pc1 := 23) (l1 := [(0, .ref 1050), (1, .ref 0), (2, .ref 55), (3, .int (iN (zi)))]) (st1 := [.int (iN (((zL : Int)) - (5))), .int (iN (zi))]) (kr1 := (78, 76)) (h1 := zg) (Eq.trans (b := (some (23, [(0, .ref 1050), (1, .ref 0), (2, .ref 55), (3, .int (iN (zi)))], [.int ((iN ((zL : Int))) - (iN (5))), .int (iN (zi))], (78, 76), zg) : Option am_C)) rfl (by simp only [Int32.ofInt_add, Int32.ofInt_sub, Int32.ofInt_mul, Int32.ofInt_neg])) ?_
    refine wp_gt (a := zi) (b := ((zL : Int)) - (5)) rfl (by omega) (by omega) (fun b_23 => ?_) (fun b_23 => ?_)
    · refine wp_run (k := 1) (pc1 := 1154) (l1 := [(0, .ref 1050), (1, .ref 0), (2, .ref 55), (3, .int (iN (zi)))]) (st1 := [.int (iN (1))]) (kr1 := (78, 76)) (h1 := zg) rfl ?_
      refine wp_ret (rv := some (.int (iN (1)))) rfl ?_
      exact zk zg
    · refine wp_run (k := 2) (pc1 := 28) (l1 := [(0, .ref 1050), (1, .ref 0), (2, .ref 55), (3, .int (iN (zi)))]) (st1 := [.int (iN (zi)), .ref 1050]) (kr1 := (78, 76)) (h1 := zg) rfl ?_
      refine wp_iald  (z := zi) (j := (zi).toNat) (n := zL) (v := iN ((xs (zi).toNat).toInt)) rfl (am_ar_50 q_l q_L) (by omega) (by omega) (by omega) (by rw [q_s]; exact (iN_self _).symm) ?_
      refine wp_run (k := 2) (pc1 := 32) (l1 := [(0, .ref 1050), (1, .ref 0), (2, .ref 55), (3, .int (iN (zi)))]) (st1 := [.int ((iN ((xs (zi).toNat).toInt)) &&& (iN (63)))]) (kr1 := (78, 76)) (h1 := zg) rfl ?_
      obtain ⟨za, q_za, q_zr⟩ : ∃ za : Int, (iN ((xs (zi).toNat).toInt)) &&& (iN (63)) = iN za ∧ (-2147483648 ≤ za ∧ za < 2147483648) := ⟨_, (iN_self _).symm, iN_rg _⟩
      rw [q_za]
      rcases sw34 za with y_sw | y_sw | y_sw | y_sw | y_sw | y_sw | y_sw | y_sw | y_sw | y_sw | y_sw | y_sw | y_sw | y_sw | y_sw | y_sw | y_sw | y_sw | y_sw | y_sw | y_sw | y_sw | y_sw | y_sw | y_sw | y_sw | y_sw | y_sw | y_sw | y_sw | y_sw | y_sw | y_sw | y_sw | y_sw
      · refine wp_swc (b := 0) (tg := 184) y_sw rfl (by decide) ?_
        refine wp_run (k := 5) (pc1 := 189) (l1 := [(0, .ref 1050), (1, .ref 0), (2, .ref 55), (3, .int (iN (zi)))]) (st1 := [.int (iN ((zi) + (1))), .ref 1050, .ref 0]) (kr1 := (78, 76)) (h1 := zg) (Eq.trans (b := (some (189, [(0, .ref 1050), (1, .ref 0), (2, .ref 55), (3, .int (iN (zi)))], [.int ((iN (zi)) + (iN (1))), .ref 1050, .ref 0], (78, 76), zg) : Option am_C)) rfl (by simp only [Int32.ofInt_add, Int32.ofInt_sub, Int32.ofInt_mul, Int32.ofInt_neg])) ?_
        refine wp_iald  (z := (zi) + (1)) (j := (zi + 1).toNat) (n := zL) (v := iN ((xs (zi + 1).toNat).toInt)) rfl (am_ar_50 q_l q_L) (by omega) (by omega) (by omega) (by rw [q_s]; exact (iN_self _).symm) ?_
        obtain ⟨v, P', p1, cL, cR⟩ := jo_periods (zd + 8) (by omega) (n := n) (P := P) (zn := (xs (zi + 1).toNat).toInt) (by omega) q_P (iN_rg _)
        refine wp_call (md1 := am_m_Lp_periods) (As := [.ref 0, .int (iN ((xs (zi + 1).toNat).toInt))]) (rest := []) (kr1 := (78, 76)) rfl (cL zg q_I) ?_
        rintro _ zg1 ⟨rfl, q_I1, q_k1⟩
        have q_s1 : zg1.1 1050 = xs := (q_k1 1050 (by decide)).1.trans q_s
        have q_l1 : zg1.1 1051 0 = iN (zL : Int) := (congrFun (q_k1 1051 (by decide)).1 0).trans q_l
        have q_R1 := zIR_k q_k1 q_R
        refine wp_run (k := 5) (pc1 := 198) (l1 := [(0, .ref 1050), (1, .ref 0), (2, .ref 55), (3, .int (iN (zi)))]) (st1 := [.int (iN ((zi) + (1))), .ref 1050, .ref 55, .int (v)]) (kr1 := (78, 76)) (h1 := zg1) (Eq.trans (b := (some (198, [(0, .ref 1050), (1, .ref 0), (2, .ref 55), (3, .int (iN (zi)))], [.int ((iN (zi)) + (iN (1))), .ref 1050, .ref 55, .int (v)], (78, 76), zg1) : Option am_C)) rfl (by simp only [Int32.ofInt_add, Int32.ofInt_sub, Int32.ofInt_mul, Int32.ofInt_neg])) ?_
        refine wp_iald  (z := (zi) + (1)) (j := (zi + 1).toNat) (n := zL) (v := iN ((xs (zi + 1).toNat).toInt)) rfl (am_ar_50 q_l1 q_L) (by omega) (by omega) (by omega) (by rw [q_s1]; exact (iN_self _).symm) ?_
        refine wp_call (md1 := am_m_Model_periods) (As := [.ref 55, .int (iN ((xs (zi + 1).toNat).toInt))]) (rest := [.int (v)]) (kr1 := (78, 76)) rfl (cR zg1 q_R1) ?_
        rintro _ zg2 ⟨rfl, q_R2, q_k2⟩
        have q_s2 : zg2.1 1050 = xs := (q_k2.1 1050 (by decide)).trans q_s1
        have q_l2 : zg2.1 1051 0 = iN (zL : Int) := (congrFun (q_k2.1 1051 (by decide)) 0).trans q_l1
        have q_I2 := zIL_k q_k2 q_I1
        refine wp_bra rfl (fun b_202 => ?_) (fun b_202 => ?_)
        · refine wp_run (k := 2) (pc1 := 18) (l1 := [(0, .ref 1050), (1, .ref 0), (2, .ref 55), (3, .int (iN ((zi) + 5)))]) (st1 := []) (kr1 := (78, 76)) (h1 := zg2) (Eq.trans (b := (some (18, [(0, .ref 1050), (1, .ref 0), (2, .ref 55), (3, .int ((iN (zi)) + iN (5)))], [], (78, 76), zg2) : Option am_C)) rfl (by simp only [Int32.ofInt_add, Int32.ofInt_sub, Int32.ofInt_mul, Int32.ofInt_neg])) ?_
          exact z_ih zg2 P' (n + 1) (zi + 5) p1 q_I2 q_R2 q_s2 q_l2 (by omega) (by omega)
        · exact absurd (b_202.symm.trans (decide_eq_true rfl)) (by decide)
      · refine wp_swc (b := 1) (tg := 207) y_sw rfl (by decide) ?_
        refine wp_run (k := 5) (pc1 := 212) (l1 := [(0, .ref 1050), (1, .ref 0), (2, .ref 55), (3, .int (iN (zi)))]) (st1 := [.int (iN ((zi) + (1))), .ref 1050, .ref 0]) (kr1 := (78, 76)) (h1 := zg) (Eq.trans (b := (some (212, [(0, .ref 1050), (1, .ref 0), (2, .ref 55), (3, .int (iN (zi)))], [.int ((iN (zi)) + (iN (1))), .ref 1050, .ref 0], (78, 76), zg) : Option am_C)) rfl (by simp only [Int32.ofInt_add, Int32.ofInt_sub, Int32.ofInt_mul, Int32.ofInt_neg])) ?_
        refine wp_iald  (z := (zi) + (1)) (j := (zi + 1).toNat) (n := zL) (v := iN ((xs (zi + 1).toNat).toInt)) rfl (am_ar_50 q_l q_L) (by omega) (by omega) (by omega) (by rw [q_s]; exact (iN_self _).symm) ?_
        refine wp_run (k := 4) (pc1 := 217) (l1 := [(0, .ref 1050), (1, .ref 0), (2, .ref 55), (3, .int (iN (zi)))]) (st1 := [.int (iN ((zi) + (2))), .ref 1050, .int (iN ((xs (zi + 1).toNat).toInt)), .ref 0]) (kr1 := (78, 76)) (h1 := zg) (Eq.trans (b := (some (217, [(0, .ref 1050), (1, .ref 0), (2, .ref 55), (3, .int (iN (zi)))], [.int ((iN (zi)) + (iN (2))), .ref 1050, .int (iN ((xs (zi + 1).toNat).toInt)), .ref 0], (78, 76), zg) : Option am_C)) rfl (by simp only [Int32.ofInt_add, Int32.ofInt_sub, Int32.ofInt_mul, Int32.ofInt_neg])) ?_
        refine wp_iald  (z := (zi) + (2)) (j := (zi + 2).toNat) (n := zL) (v := iN ((xs (zi + 2).toNat).toInt)) rfl (am_ar_50 q_l q_L) (by omega) (by omega) (by omega) (by rw [q_s]; exact (iN_self _).symm) ?_
        refine wp_run (k := 4) (pc1 := 222) (l1 := [(0, .ref 1050), (1, .ref 0), (2, .ref 55), (3, .int (iN (zi)))]) (st1 := [.int (iN ((zi) + (3))), .ref 1050, .int (iN ((xs (zi + 2).toNat).toInt)), .int (iN ((xs (zi + 1).toNat).toInt)), .ref 0]) (kr1 := (78, 76)) (h1 := zg) (Eq.trans (b := (some (222, [(0, .ref 1050), (1, .ref 0), (2, .ref 55), (3, .int (iN (zi)))], [.int ((iN (zi)) + (iN (3))), .ref 1050, .int (iN ((xs (zi + 2).toNat).toInt)), .int (iN ((xs (zi + 1).toNat).toInt)), .ref 0], (78, 76), zg) : Option am_C)) rfl (by simp only [Int32.ofInt_add, Int32.ofInt_sub, Int32.ofInt_mul, Int32.ofInt_neg])) ?_
        refine wp_iald  (z := (zi) + (3)) (j := (zi + 3).toNat) (n := zL) (v := iN ((xs (zi + 3).toNat).toInt)) rfl (am_ar_50 q_l q_L) (by omega) (by omega) (by omega) (by rw [q_s]; exact (iN_self _).symm) ?_
        obtain ⟨v, P', p1, cL, cR⟩ := jo_tell (zd + 8) (by omega) (n := n) (P := P) (zp := (xs (zi + 1).toNat).toInt) (zw := (xs (zi + 2).toNat).toInt) (zv := (xs (zi + 3).toNat).toInt) (by omega) q_P (iN_rg _) (iN_rg _) (iN_rg _)
        refine wp_call (md1 := am_m_Lp_tell) (As := [.ref 0, .int (iN ((xs (zi + 1).toNat).toInt)), .int (iN ((xs (zi + 2).toNat).toInt)), .int (iN ((xs (zi + 3).toNat).toInt))]) (rest := []) (kr1 := (78, 76)) rfl (cL zg q_I) ?_
        rintro _ zg1 ⟨rfl, q_I1, q_k1⟩
        have q_s1 : zg1.1 1050 = xs := (q_k1 1050 (by decide)).1.trans q_s
        have q_l1 : zg1.1 1051 0 = iN (zL : Int) := (congrFun (q_k1 1051 (by decide)).1 0).trans q_l
        have q_R1 := zIR_k q_k1 q_R
        refine wp_run (k := 5) (pc1 := 231) (l1 := [(0, .ref 1050), (1, .ref 0), (2, .ref 55), (3, .int (iN (zi)))]) (st1 := [.int (iN ((zi) + (1))), .ref 1050, .ref 55, .int (v)]) (kr1 := (78, 76)) (h1 := zg1) (Eq.trans (b := (some (231, [(0, .ref 1050), (1, .ref 0), (2, .ref 55), (3, .int (iN (zi)))], [.int ((iN (zi)) + (iN (1))), .ref 1050, .ref 55, .int (v)], (78, 76), zg1) : Option am_C)) rfl (by simp only [Int32.ofInt_add, Int32.ofInt_sub, Int32.ofInt_mul, Int32.ofInt_neg])) ?_
        refine wp_iald  (z := (zi) + (1)) (j := (zi + 1).toNat) (n := zL) (v := iN ((xs (zi + 1).toNat).toInt)) rfl (am_ar_50 q_l1 q_L) (by omega) (by omega) (by omega) (by rw [q_s1]; exact (iN_self _).symm) ?_
        refine wp_run (k := 4) (pc1 := 236) (l1 := [(0, .ref 1050), (1, .ref 0), (2, .ref 55), (3, .int (iN (zi)))]) (st1 := [.int (iN ((zi) + (2))), .ref 1050, .int (iN ((xs (zi + 1).toNat).toInt)), .ref 55, .int (v)]) (kr1 := (78, 76)) (h1 := zg1) (Eq.trans (b := (some (236, [(0, .ref 1050), (1, .ref 0), (2, .ref 55), (3, .int (iN (zi)))], [.int ((iN (zi)) + (iN (2))), .ref 1050, .int (iN ((xs (zi + 1).toNat).toInt)), .ref 55, .int (v)], (78, 76), zg1) : Option am_C)) rfl (by simp only [Int32.ofInt_add, Int32.ofInt_sub, Int32.ofInt_mul, Int32.ofInt_neg])) ?_
        refine wp_iald  (z := (zi) + (2)) (j := (zi + 2).toNat) (n := zL) (v := iN ((xs (zi + 2).toNat).toInt)) rfl (am_ar_50 q_l1 q_L) (by omega) (by omega) (by omega) (by rw [q_s1]; exact (iN_self _).symm) ?_
        refine wp_run (k := 4) (pc1 := 241) (l1 := [(0, .ref 1050), (1, .ref 0), (2, .ref 55), (3, .int (iN (zi)))]) (st1 := [.int (iN ((zi) + (3))), .ref 1050, .int (iN ((xs (zi + 2).toNat).toInt)), .int (iN ((xs (zi + 1).toNat).toInt)), .ref 55, .int (v)]) (kr1 := (78, 76)) (h1 := zg1) (Eq.trans (b := (some (241, [(0, .ref 1050), (1, .ref 0), (2, .ref 55), (3, .int (iN (zi)))], [.int ((iN (zi)) + (iN (3))), .ref 1050, .int (iN ((xs (zi + 2).toNat).toInt)), .int (iN ((xs (zi + 1).toNat).toInt)), .ref 55, .int (v)], (78, 76), zg1) : Option am_C)) rfl (by simp only [Int32.ofInt_add, Int32.ofInt_sub, Int32.ofInt_mul, Int32.ofInt_neg])) ?_
        refine wp_iald  (z := (zi) + (3)) (j := (zi + 3).toNat) (n := zL) (v := iN ((xs (zi + 3).toNat).toInt)) rfl (am_ar_50 q_l1 q_L) (by omega) (by omega) (by omega) (by rw [q_s1]; exact (iN_self _).symm) ?_
        refine wp_call (md1 := am_m_Model_tell) (As := [.ref 55, .int (iN ((xs (zi + 1).toNat).toInt)), .int (iN ((xs (zi + 2).toNat).toInt)), .int (iN ((xs (zi + 3).toNat).toInt))]) (rest := [.int (v)]) (kr1 := (78, 76)) rfl (cR zg1 q_R1) ?_
        rintro _ zg2 ⟨rfl, q_R2, q_k2⟩
        have q_s2 : zg2.1 1050 = xs := (q_k2.1 1050 (by decide)).trans q_s1
        have q_l2 : zg2.1 1051 0 = iN (zL : Int) := (congrFun (q_k2.1 1051 (by decide)) 0).trans q_l1
        have q_I2 := zIL_k q_k2 q_I1
        refine wp_bra rfl (fun b_245 => ?_) (fun b_245 => ?_)
        · refine wp_run (k := 2) (pc1 := 18) (l1 := [(0, .ref 1050), (1, .ref 0), (2, .ref 55), (3, .int (iN ((zi) + 5)))]) (st1 := []) (kr1 := (78, 76)) (h1 := zg2) (Eq.trans (b := (some (18, [(0, .ref 1050), (1, .ref 0), (2, .ref 55), (3, .int ((iN (zi)) + iN (5)))], [], (78, 76), zg2) : Option am_C)) rfl (by simp only [Int32.ofInt_add, Int32.ofInt_sub, Int32.ofInt_mul, Int32.ofInt_neg])) ?_
          exact z_ih zg2 P' (n + 1) (zi + 5) p1 q_I2 q_R2 q_s2 q_l2 (by omega) (by omega)
        · exact absurd (b_245.symm.trans (decide_eq_true rfl)) (by decide)
      · refine wp_swc (b := 2) (tg := 250) y_sw rfl (by decide) ?_
        refine wp_run (k := 5) (pc1 := 255) (l1 := [(0, .ref 1050), (1, .ref 0), (2, .ref 55), (3, .int (iN (zi)))]) (st1 := [.int (iN ((zi) + (1))), .ref 1050, .ref 0]) (kr1 := (78, 76)) (h1 := zg) (Eq.trans (b := (some (255, [(0, .ref 1050), (1, .ref 0), (2, .ref 55), (3, .int (iN (zi)))], [.int ((iN (zi)) + (iN (1))), .ref 1050, .ref 0], (78, 76), zg) : Option am_C)) rfl (by simp only [Int32.ofInt_add, Int32.ofInt_sub, Int32.ofInt_mul, Int32.ofInt_neg])) ?_
        refine wp_iald  (z := (zi) + (1)) (j := (zi + 1).toNat) (n := zL) (v := iN ((xs (zi + 1).toNat).toInt)) rfl (am_ar_50 q_l q_L) (by omega) (by omega) (by omega) (by rw [q_s]; exact (iN_self _).symm) ?_
        refine wp_run (k := 4) (pc1 := 260) (l1 := [(0, .ref 1050), (1, .ref 0), (2, .ref 55), (3, .int (iN (zi)))]) (st1 := [.int (iN ((zi) + (2))), .ref 1050, .int (iN ((xs (zi + 1).toNat).toInt)), .ref 0]) (kr1 := (78, 76)) (h1 := zg) (Eq.trans (b := (some (260, [(0, .ref 1050), (1, .ref 0), (2, .ref 55), (3, .int (iN (zi)))], [.int ((iN (zi)) + (iN (2))), .ref 1050, .int (iN ((xs (zi + 1).toNat).toInt)), .ref 0], (78, 76), zg) : Option am_C)) rfl (by simp only [Int32.ofInt_add, Int32.ofInt_sub, Int32.ofInt_mul, Int32.ofInt_neg])) ?_
        refine wp_iald  (z := (zi) + (2)) (j := (zi + 2).toNat) (n := zL) (v := iN ((xs (zi + 2).toNat).toInt)) rfl (am_ar_50 q_l q_L) (by omega) (by omega) (by omega) (by rw [q_s]; exact (iN_self _).symm) ?_
        refine wp_run (k := 4) (pc1 := 265) (l1 := [(0, .ref 1050), (1, .ref 0), (2, .ref 55), (3, .int (iN (zi)))]) (st1 := [.int (iN ((zi) + (3))), .ref 1050, .int (iN ((xs (zi + 2).toNat).toInt)), .int (iN ((xs (zi + 1).toNat).toInt)), .ref 0]) (kr1 := (78, 76)) (h1 := zg) (Eq.trans (b := (some (265, [(0, .ref 1050), (1, .ref 0), (2, .ref 55), (3, .int (iN (zi)))], [.int ((iN (zi)) + (iN (3))), .ref 1050, .int (iN ((xs (zi + 2).toNat).toInt)), .int (iN ((xs (zi + 1).toNat).toInt)), .ref 0], (78, 76), zg) : Option am_C)) rfl (by simp only [Int32.ofInt_add, Int32.ofInt_sub, Int32.ofInt_mul, Int32.ofInt_neg])) ?_
        refine wp_iald  (z := (zi) + (3)) (j := (zi + 3).toNat) (n := zL) (v := iN ((xs (zi + 3).toNat).toInt)) rfl (am_ar_50 q_l q_L) (by omega) (by omega) (by omega) (by rw [q_s]; exact (iN_self _).symm) ?_
        refine wp_run (k := 4) (pc1 := 270) (l1 := [(0, .ref 1050), (1, .ref 0), (2, .ref 55), (3, .int (iN (zi)))]) (st1 := [.int (iN ((zi) + (4))), .ref 1050, .int (iN ((xs (zi + 3).toNat).toInt)), .int (iN ((xs (zi + 2).toNat).toInt)), .int (iN ((xs (zi + 1).toNat).toInt)), .ref 0]) (kr1 := (78, 76)) (h1 := zg) (Eq.trans (b := (some (270, [(0, .ref 1050), (1, .ref 0), (2, .ref 55), (3, .int (iN (zi)))], [.int ((iN (zi)) + (iN (4))), .ref 1050, .int (iN ((xs (zi + 3).toNat).toInt)), .int (iN ((xs (zi + 2).toNat).toInt)), .int (iN ((xs (zi + 1).toNat).toInt)), .ref 0], (78, 76), zg) : Option am_C)) rfl (by simp only [Int32.ofInt_add, Int32.ofInt_sub, Int32.ofInt_mul, Int32.ofInt_neg])) ?_
        refine wp_iald  (z := (zi) + (4)) (j := (zi + 4).toNat) (n := zL) (v := iN ((xs (zi + 4).toNat).toInt)) rfl (am_ar_50 q_l q_L) (by omega) (by omega) (by omega) (by rw [q_s]; exact (iN_self _).symm) ?_
        obtain ⟨v, P', p1, cL, cR⟩ := jo_tellAll (zd + 8) (by omega) (n := n) (P := P) (za := (xs (zi + 1).toNat).toInt) (zb := (xs (zi + 2).toNat).toInt) (zw := (xs (zi + 3).toNat).toInt) (zv := (xs (zi + 4).toNat).toInt) (by omega) q_P (iN_rg _) (iN_rg _) (iN_rg _) (iN_rg _)
        refine wp_call (md1 := am_m_Lp_tellAll) (As := [.ref 0, .int (iN ((xs (zi + 1).toNat).toInt)), .int (iN ((xs (zi + 2).toNat).toInt)), .int (iN ((xs (zi + 3).toNat).toInt)), .int (iN ((xs (zi + 4).toNat).toInt))]) (rest := []) (kr1 := (78, 76)) rfl (cL zg q_I) ?_
        rintro _ zg1 ⟨rfl, q_I1, q_k1⟩
        have q_s1 : zg1.1 1050 = xs := (q_k1 1050 (by decide)).1.trans q_s
        have q_l1 : zg1.1 1051 0 = iN (zL : Int) := (congrFun (q_k1 1051 (by decide)).1 0).trans q_l
        have q_R1 := zIR_k q_k1 q_R
        refine wp_run (k := 5) (pc1 := 279) (l1 := [(0, .ref 1050), (1, .ref 0), (2, .ref 55), (3, .int (iN (zi)))]) (st1 := [.int (iN ((zi) + (1))), .ref 1050, .ref 55, .int (v)]) (kr1 := (78, 76)) (h1 := zg1) (Eq.trans (b := (some (279, [(0, .ref 1050), (1, .ref 0), (2, .ref 55), (3, .int (iN (zi)))], [.int ((iN (zi)) + (iN (1))), .ref 1050, .ref 55, .int (v)], (78, 76), zg1) : Option am_C)) rfl (by simp only [Int32.ofInt_add, Int32.ofInt_sub, Int32.ofInt_mul, Int32.ofInt_neg])) ?_
        refine wp_iald  (z := (zi) + (1)) (j := (zi + 1).toNat) (n := zL) (v := iN ((xs (zi + 1).toNat).toInt)) rfl (am_ar_50 q_l1 q_L) (by omega) (by omega) (by omega) (by rw [q_s1]; exact (iN_self _).symm) ?_
        refine wp_run (k := 4) (pc1 := 284) (l1 := [(0, .ref 1050), (1, .ref 0), (2, .ref 55), (3, .int (iN (zi)))]) (st1 := [.int (iN ((zi) + (2))), .ref 1050, .int (iN ((xs (zi + 1).toNat).toInt)), .ref 55, .int (v)]) (kr1 := (78, 76)) (h1 := zg1) (Eq.trans (b := (some (284, [(0, .ref 1050), (1, .ref 0), (2, .ref 55), (3, .int (iN (zi)))], [.int ((iN (zi)) + (iN (2))), .ref 1050, .int (iN ((xs (zi + 1).toNat).toInt)), .ref 55, .int (v)], (78, 76), zg1) : Option am_C)) rfl (by simp only [Int32.ofInt_add, Int32.ofInt_sub, Int32.ofInt_mul, Int32.ofInt_neg])) ?_
        refine wp_iald  (z := (zi) + (2)) (j := (zi + 2).toNat) (n := zL) (v := iN ((xs (zi + 2).toNat).toInt)) rfl (am_ar_50 q_l1 q_L) (by omega) (by omega) (by omega) (by rw [q_s1]; exact (iN_self _).symm) ?_
        refine wp_run (k := 4) (pc1 := 289) (l1 := [(0, .ref 1050), (1, .ref 0), (2, .ref 55), (3, .int (iN (zi)))]) (st1 := [.int (iN ((zi) + (3))), .ref 1050, .int (iN ((xs (zi + 2).toNat).toInt)), .int (iN ((xs (zi + 1).toNat).toInt)), .ref 55, .int (v)]) (kr1 := (78, 76)) (h1 := zg1) (Eq.trans (b := (some (289, [(0, .ref 1050), (1, .ref 0), (2, .ref 55), (3, .int (iN (zi)))], [.int ((iN (zi)) + (iN (3))), .ref 1050, .int (iN ((xs (zi + 2).toNat).toInt)), .int (iN ((xs (zi + 1).toNat).toInt)), .ref 55, .int (v)], (78, 76), zg1) : Option am_C)) rfl (by simp only [Int32.ofInt_add, Int32.ofInt_sub, Int32.ofInt_mul, Int32.ofInt_neg])) ?_
        refine wp_iald  (z := (zi) + (3)) (j := (zi + 3).toNat) (n := zL) (v := iN ((xs (zi + 3).toNat).toInt)) rfl (am_ar_50 q_l1 q_L) (by omega) (by omega) (by omega) (by rw [q_s1]; exact (iN_self _).symm) ?_
        refine wp_run (k := 4) (pc1 := 294) (l1 := [(0, .ref 1050), (1, .ref 0), (2, .ref 55), (3, .int (iN (zi)))]) (st1 := [.int (iN ((zi) + (4))), .ref 1050, .int (iN ((xs (zi + 3).toNat).toInt)), .int (iN ((xs (zi + 2).toNat).toInt)), .int (iN ((xs (zi + 1).toNat).toInt)), .ref 55, .int (v)]) (kr1 := (78, 76)) (h1 := zg1) (Eq.trans (b := (some (294, [(0, .ref 1050), (1, .ref 0), (2, .ref 55), (3, .int (iN (zi)))], [.int ((iN (zi)) + (iN (4))), .ref 1050, .int (iN ((xs (zi + 3).toNat).toInt)), .int (iN ((xs (zi + 2).toNat).toInt)), .int (iN ((xs (zi + 1).toNat).toInt)), .ref 55, .int (v)], (78, 76), zg1) : Option am_C)) rfl (by simp only [Int32.ofInt_add, Int32.ofInt_sub, Int32.ofInt_mul, Int32.ofInt_neg])) ?_
        refine wp_iald  (z := (zi) + (4)) (j := (zi + 4).toNat) (n := zL) (v := iN ((xs (zi + 4).toNat).toInt)) rfl (am_ar_50 q_l1 q_L) (by omega) (by omega) (by omega) (by rw [q_s1]; exact (iN_self _).symm) ?_
        refine wp_call (md1 := am_m_Model_tellAll) (As := [.ref 55, .int (iN ((xs (zi + 1).toNat).toInt)), .int (iN ((xs (zi + 2).toNat).toInt)), .int (iN ((xs (zi + 3).toNat).toInt)), .int (iN ((xs (zi + 4).toNat).toInt))]) (rest := [.int (v)]) (kr1 := (78, 76)) rfl (cR zg1 q_R1) ?_
        rintro _ zg2 ⟨rfl, q_R2, q_k2⟩
        have q_s2 : zg2.1 1050 = xs := (q_k2.1 1050 (by decide)).trans q_s1
        have q_l2 : zg2.1 1051 0 = iN (zL : Int) := (congrFun (q_k2.1 1051 (by decide)) 0).trans q_l1
        have q_I2 := zIL_k q_k2 q_I1
        refine wp_bra rfl (fun b_298 => ?_) (fun b_298 => ?_)
        · refine wp_run (k := 2) (pc1 := 18) (l1 := [(0, .ref 1050), (1, .ref 0), (2, .ref 55), (3, .int (iN ((zi) + 5)))]) (st1 := []) (kr1 := (78, 76)) (h1 := zg2) (Eq.trans (b := (some (18, [(0, .ref 1050), (1, .ref 0), (2, .ref 55), (3, .int ((iN (zi)) + iN (5)))], [], (78, 76), zg2) : Option am_C)) rfl (by simp only [Int32.ofInt_add, Int32.ofInt_sub, Int32.ofInt_mul, Int32.ofInt_neg])) ?_
          exact z_ih zg2 P' (n + 1) (zi + 5) p1 q_I2 q_R2 q_s2 q_l2 (by omega) (by omega)
        · exact absurd (b_298.symm.trans (decide_eq_true rfl)) (by decide)
      · refine wp_swc (b := 3) (tg := 303) y_sw rfl (by decide) ?_
        refine wp_run (k := 5) (pc1 := 308) (l1 := [(0, .ref 1050), (1, .ref 0), (2, .ref 55), (3, .int (iN (zi)))]) (st1 := [.int (iN ((zi) + (1))), .ref 1050, .ref 0]) (kr1 := (78, 76)) (h1 := zg) (Eq.trans (b := (some (308, [(0, .ref 1050), (1, .ref 0), (2, .ref 55), (3, .int (iN (zi)))], [.int ((iN (zi)) + (iN (1))), .ref 1050, .ref 0], (78, 76), zg) : Option am_C)) rfl (by simp only [Int32.ofInt_add, Int32.ofInt_sub, Int32.ofInt_mul, Int32.ofInt_neg])) ?_
        refine wp_iald  (z := (zi) + (1)) (j := (zi + 1).toNat) (n := zL) (v := iN ((xs (zi + 1).toNat).toInt)) rfl (am_ar_50 q_l q_L) (by omega) (by omega) (by omega) (by rw [q_s]; exact (iN_self _).symm) ?_
        refine wp_run (k := 4) (pc1 := 313) (l1 := [(0, .ref 1050), (1, .ref 0), (2, .ref 55), (3, .int (iN (zi)))]) (st1 := [.int (iN ((zi) + (2))), .ref 1050, .int (iN ((xs (zi + 1).toNat).toInt)), .ref 0]) (kr1 := (78, 76)) (h1 := zg) (Eq.trans (b := (some (313, [(0, .ref 1050), (1, .ref 0), (2, .ref 55), (3, .int (iN (zi)))], [.int ((iN (zi)) + (iN (2))), .ref 1050, .int (iN ((xs (zi + 1).toNat).toInt)), .ref 0], (78, 76), zg) : Option am_C)) rfl (by simp only [Int32.ofInt_add, Int32.ofInt_sub, Int32.ofInt_mul, Int32.ofInt_neg])) ?_
        refine wp_iald  (z := (zi) + (2)) (j := (zi + 2).toNat) (n := zL) (v := iN ((xs (zi + 2).toNat).toInt)) rfl (am_ar_50 q_l q_L) (by omega) (by omega) (by omega) (by rw [q_s]; exact (iN_self _).symm) ?_
        obtain ⟨v, P', p1, cL, cR⟩ := jo_let (zd + 8) (by omega) (n := n) (P := P) (zw := (xs (zi + 1).toNat).toInt) (zv := (xs (zi + 2).toNat).toInt) (by omega) q_P (iN_rg _) (iN_rg _)
        refine wp_call (md1 := am_m_Lp_let) (As := [.ref 0, .int (iN ((xs (zi + 1).toNat).toInt)), .int (iN ((xs (zi + 2).toNat).toInt))]) (rest := []) (kr1 := (78, 76)) rfl (cL zg q_I) ?_
        rintro _ zg1 ⟨rfl, q_I1, q_k1⟩
        have q_s1 : zg1.1 1050 = xs := (q_k1 1050 (by decide)).1.trans q_s
        have q_l1 : zg1.1 1051 0 = iN (zL : Int) := (congrFun (q_k1 1051 (by decide)).1 0).trans q_l
        have q_R1 := zIR_k q_k1 q_R
        refine wp_run (k := 5) (pc1 := 322) (l1 := [(0, .ref 1050), (1, .ref 0), (2, .ref 55), (3, .int (iN (zi)))]) (st1 := [.int (iN ((zi) + (1))), .ref 1050, .ref 55, .int (v)]) (kr1 := (78, 76)) (h1 := zg1) (Eq.trans (b := (some (322, [(0, .ref 1050), (1, .ref 0), (2, .ref 55), (3, .int (iN (zi)))], [.int ((iN (zi)) + (iN (1))), .ref 1050, .ref 55, .int (v)], (78, 76), zg1) : Option am_C)) rfl (by simp only [Int32.ofInt_add, Int32.ofInt_sub, Int32.ofInt_mul, Int32.ofInt_neg])) ?_
        refine wp_iald  (z := (zi) + (1)) (j := (zi + 1).toNat) (n := zL) (v := iN ((xs (zi + 1).toNat).toInt)) rfl (am_ar_50 q_l1 q_L) (by omega) (by omega) (by omega) (by rw [q_s1]; exact (iN_self _).symm) ?_
        refine wp_run (k := 4) (pc1 := 327) (l1 := [(0, .ref 1050), (1, .ref 0), (2, .ref 55), (3, .int (iN (zi)))]) (st1 := [.int (iN ((zi) + (2))), .ref 1050, .int (iN ((xs (zi + 1).toNat).toInt)), .ref 55, .int (v)]) (kr1 := (78, 76)) (h1 := zg1) (Eq.trans (b := (some (327, [(0, .ref 1050), (1, .ref 0), (2, .ref 55), (3, .int (iN (zi)))], [.int ((iN (zi)) + (iN (2))), .ref 1050, .int (iN ((xs (zi + 1).toNat).toInt)), .ref 55, .int (v)], (78, 76), zg1) : Option am_C)) rfl (by simp only [Int32.ofInt_add, Int32.ofInt_sub, Int32.ofInt_mul, Int32.ofInt_neg])) ?_
        refine wp_iald  (z := (zi) + (2)) (j := (zi + 2).toNat) (n := zL) (v := iN ((xs (zi + 2).toNat).toInt)) rfl (am_ar_50 q_l1 q_L) (by omega) (by omega) (by omega) (by rw [q_s1]; exact (iN_self _).symm) ?_
        refine wp_call (md1 := am_m_Model_let) (As := [.ref 55, .int (iN ((xs (zi + 1).toNat).toInt)), .int (iN ((xs (zi + 2).toNat).toInt))]) (rest := [.int (v)]) (kr1 := (78, 76)) rfl (cR zg1 q_R1) ?_
        rintro _ zg2 ⟨rfl, q_R2, q_k2⟩
        have q_s2 : zg2.1 1050 = xs := (q_k2.1 1050 (by decide)).trans q_s1
        have q_l2 : zg2.1 1051 0 = iN (zL : Int) := (congrFun (q_k2.1 1051 (by decide)) 0).trans q_l1
        have q_I2 := zIL_k q_k2 q_I1
        refine wp_bra rfl (fun b_331 => ?_) (fun b_331 => ?_)
        · refine wp_run (k := 2) (pc1 := 18) (l1 := [(0, .ref 1050), (1, .ref 0), (2, .ref 55), (3, .int (iN ((zi) + 5)))]) (st1 := []) (kr1 := (78, 76)) (h1 := zg2) (Eq.trans (b := (some (18, [(0, .ref 1050), (1, .ref 0), (2, .ref 55), (3, .int ((iN (zi)) + iN (5)))], [], (78, 76), zg2) : Option am_C)) rfl (by simp only [Int32.ofInt_add, Int32.ofInt_sub, Int32.ofInt_mul, Int32.ofInt_neg])) ?_
          exact z_ih zg2 P' (n + 1) (zi + 5) p1 q_I2 q_R2 q_s2 q_l2 (by omega) (by omega)
        · exact absurd (b_331.symm.trans (decide_eq_true rfl)) (by decide)
      · refine wp_swc (b := 4) (tg := 336) y_sw rfl (by decide) ?_
        refine wp_run (k := 5) (pc1 := 341) (l1 := [(0, .ref 1050), (1, .ref 0), (2, .ref 55), (3, .int (iN (zi)))]) (st1 := [.int (iN ((zi) + (1))), .ref 1050, .ref 0]) (kr1 := (78, 76)) (h1 := zg) (Eq.trans (b := (some (341, [(0, .ref 1050), (1, .ref 0), (2, .ref 55), (3, .int (iN (zi)))], [.int ((iN (zi)) + (iN (1))), .ref 1050, .ref 0], (78, 76), zg) : Option am_C)) rfl (by simp only [Int32.ofInt_add, Int32.ofInt_sub, Int32.ofInt_mul, Int32.ofInt_neg])) ?_
        refine wp_iald  (z := (zi) + (1)) (j := (zi + 1).toNat) (n := zL) (v := iN ((xs (zi + 1).toNat).toInt)) rfl (am_ar_50 q_l q_L) (by omega) (by omega) (by omega) (by rw [q_s]; exact (iN_self _).symm) ?_
        refine wp_run (k := 4) (pc1 := 346) (l1 := [(0, .ref 1050), (1, .ref 0), (2, .ref 55), (3, .int (iN (zi)))]) (st1 := [.int (iN ((zi) + (2))), .ref 1050, .int (iN ((xs (zi + 1).toNat).toInt)), .ref 0]) (kr1 := (78, 76)) (h1 := zg) (Eq.trans (b := (some (346, [(0, .ref 1050), (1, .ref 0), (2, .ref 55), (3, .int (iN (zi)))], [.int ((iN (zi)) + (iN (2))), .ref 1050, .int (iN ((xs (zi + 1).toNat).toInt)), .ref 0], (78, 76), zg) : Option am_C)) rfl (by simp only [Int32.ofInt_add, Int32.ofInt_sub, Int32.ofInt_mul, Int32.ofInt_neg])) ?_
        refine wp_iald  (z := (zi) + (2)) (j := (zi + 2).toNat) (n := zL) (v := iN ((xs (zi + 2).toNat).toInt)) rfl (am_ar_50 q_l q_L) (by omega) (by omega) (by omega) (by rw [q_s]; exact (iN_self _).symm) ?_
        obtain ⟨v, P', p1, cL, cR⟩ := jo_of (zd + 8) (by omega) (n := n) (P := P) (zp := (xs (zi + 1).toNat).toInt) (zw := (xs (zi + 2).toNat).toInt) (by omega) q_P (iN_rg _) (iN_rg _)
        refine wp_call (md1 := am_m_Lp_of) (As := [.ref 0, .int (iN ((xs (zi + 1).toNat).toInt)), .int (iN ((xs (zi + 2).toNat).toInt))]) (rest := []) (kr1 := (78, 76)) rfl (cL zg q_I) ?_
        rintro _ zg1 ⟨rfl, q_I1, q_k1⟩
        have q_s1 : zg1.1 1050 = xs := (q_k1 1050 (by decide)).1.trans q_s
        have q_l1 : zg1.1 1051 0 = iN (zL : Int) := (congrFun (q_k1 1051 (by decide)).1 0).trans q_l
        have q_R1 := zIR_k q_k1 q_R
        refine wp_run (k := 5) (pc1 := 355) (l1 := [(0, .ref 1050), (1, .ref 0), (2, .ref 55), (3, .int (iN (zi)))]) (st1 := [.int (iN ((zi) + (1))), .ref 1050, .ref 55, .int (v)]) (kr1 := (78, 76)) (h1 := zg1) (Eq.trans (b := (some (355, [(0, .ref 1050), (1, .ref 0), (2, .ref 55), (3, .int (iN (zi)))], [.int ((iN (zi)) + (iN (1))), .ref 1050, .ref 55, .int (v)], (78, 76), zg1) : Option am_C)) rfl (by simp only [Int32.ofInt_add, Int32.ofInt_sub, Int32.ofInt_mul, Int32.ofInt_neg])) ?_
        refine wp_iald  (z := (zi) + (1)) (j := (zi + 1).toNat) (n := zL) (v := iN ((xs (zi + 1).toNat).toInt)) rfl (am_ar_50 q_l1 q_L) (by omega) (by omega) (by omega) (by rw [q_s1]; exact (iN_self _).symm) ?_
        refine wp_run (k := 4) (pc1 := 360) (l1 := [(0, .ref 1050), (1, .ref 0), (2, .ref 55), (3, .int (iN (zi)))]) (st1 := [.int (iN ((zi) + (2))), .ref 1050, .int (iN ((xs (zi + 1).toNat).toInt)), .ref 55, .int (v)]) (kr1 := (78, 76)) (h1 := zg1) (Eq.trans (b := (some (360, [(0, .ref 1050), (1, .ref 0), (2, .ref 55), (3, .int (iN (zi)))], [.int ((iN (zi)) + (iN (2))), .ref 1050, .int (iN ((xs (zi + 1).toNat).toInt)), .ref 55, .int (v)], (78, 76), zg1) : Option am_C)) rfl (by simp only [Int32.ofInt_add, Int32.ofInt_sub, Int32.ofInt_mul, Int32.ofInt_neg])) ?_
        refine wp_iald  (z := (zi) + (2)) (j := (zi + 2).toNat) (n := zL) (v := iN ((xs (zi + 2).toNat).toInt)) rfl (am_ar_50 q_l1 q_L) (by omega) (by omega) (by omega) (by rw [q_s1]; exact (iN_self _).symm) ?_
        refine wp_call (md1 := am_m_Model_of) (As := [.ref 55, .int (iN ((xs (zi + 1).toNat).toInt)), .int (iN ((xs (zi + 2).toNat).toInt))]) (rest := [.int (v)]) (kr1 := (78, 76)) rfl (cR zg1 q_R1) ?_
        rintro _ zg2 ⟨rfl, q_R2, q_k2⟩
        have q_s2 : zg2.1 1050 = xs := (q_k2.1 1050 (by decide)).trans q_s1
        have q_l2 : zg2.1 1051 0 = iN (zL : Int) := (congrFun (q_k2.1 1051 (by decide)) 0).trans q_l1
        have q_I2 := zIL_k q_k2 q_I1
        refine wp_bra rfl (fun b_364 => ?_) (fun b_364 => ?_)
        · refine wp_run (k := 2) (pc1 := 18) (l1 := [(0, .ref 1050), (1, .ref 0), (2, .ref 55), (3, .int (iN ((zi) + 5)))]) (st1 := []) (kr1 := (78, 76)) (h1 := zg2) (Eq.trans (b := (some (18, [(0, .ref 1050), (1, .ref 0), (2, .ref 55), (3, .int ((iN (zi)) + iN (5)))], [], (78, 76), zg2) : Option am_C)) rfl (by simp only [Int32.ofInt_add, Int32.ofInt_sub, Int32.ofInt_mul, Int32.ofInt_neg])) ?_
          exact z_ih zg2 P' (n + 1) (zi + 5) p1 q_I2 q_R2 q_s2 q_l2 (by omega) (by omega)
        · exact absurd (b_364.symm.trans (decide_eq_true rfl)) (by decide)
      · refine wp_swc (b := 5) (tg := 369) y_sw rfl (by decide) ?_
        refine wp_run (k := 5) (pc1 := 374) (l1 := [(0, .ref 1050), (1, .ref 0), (2, .ref 55), (3, .int (iN (zi)))]) (st1 := [.int (iN ((zi) + (1))), .ref 1050, .ref 0]) (kr1 := (78, 76)) (h1 := zg) (Eq.trans (b := (some (374, [(0, .ref 1050), (1, .ref 0), (2, .ref 55), (3, .int (iN (zi)))], [.int ((iN (zi)) + (iN (1))), .ref 1050, .ref 0], (78, 76), zg) : Option am_C)) rfl (by simp only [Int32.ofInt_add, Int32.ofInt_sub, Int32.ofInt_mul, Int32.ofInt_neg])) ?_
        refine wp_iald  (z := (zi) + (1)) (j := (zi + 1).toNat) (n := zL) (v := iN ((xs (zi + 1).toNat).toInt)) rfl (am_ar_50 q_l q_L) (by omega) (by omega) (by omega) (by rw [q_s]; exact (iN_self _).symm) ?_
        obtain ⟨v, P', p1, cL, cR⟩ := jo_feed (zd + 8) (by omega) (n := n) (P := P) (zc := (xs (zi + 1).toNat).toInt) (by omega) q_P (iN_rg _)
        refine wp_call (md1 := am_m_Lp_feed) (As := [.ref 0, .int (iN ((xs (zi + 1).toNat).toInt))]) (rest := []) (kr1 := (78, 76)) rfl (cL zg q_I) ?_
        rintro _ zg1 ⟨rfl, q_I1, q_k1⟩
        have q_s1 : zg1.1 1050 = xs := (q_k1 1050 (by decide)).1.trans q_s
        have q_l1 : zg1.1 1051 0 = iN (zL : Int) := (congrFun (q_k1 1051 (by decide)).1 0).trans q_l
        have q_R1 := zIR_k q_k1 q_R
        refine wp_run (k := 5) (pc1 := 383) (l1 := [(0, .ref 1050), (1, .ref 0), (2, .ref 55), (3, .int (iN (zi)))]) (st1 := [.int (iN ((zi) + (1))), .ref 1050, .ref 55, .int (v)]) (kr1 := (78, 76)) (h1 := zg1) (Eq.trans (b := (some (383, [(0, .ref 1050), (1, .ref 0), (2, .ref 55), (3, .int (iN (zi)))], [.int ((iN (zi)) + (iN (1))), .ref 1050, .ref 55, .int (v)], (78, 76), zg1) : Option am_C)) rfl (by simp only [Int32.ofInt_add, Int32.ofInt_sub, Int32.ofInt_mul, Int32.ofInt_neg])) ?_
        refine wp_iald  (z := (zi) + (1)) (j := (zi + 1).toNat) (n := zL) (v := iN ((xs (zi + 1).toNat).toInt)) rfl (am_ar_50 q_l1 q_L) (by omega) (by omega) (by omega) (by rw [q_s1]; exact (iN_self _).symm) ?_
        refine wp_call (md1 := am_m_Model_feed) (As := [.ref 55, .int (iN ((xs (zi + 1).toNat).toInt))]) (rest := [.int (v)]) (kr1 := (78, 76)) rfl (cR zg1 q_R1) ?_
        rintro _ zg2 ⟨rfl, q_R2, q_k2⟩
        have q_s2 : zg2.1 1050 = xs := (q_k2.1 1050 (by decide)).trans q_s1
        have q_l2 : zg2.1 1051 0 = iN (zL : Int) := (congrFun (q_k2.1 1051 (by decide)) 0).trans q_l1
        have q_I2 := zIL_k q_k2 q_I1
        refine wp_bra rfl (fun b_387 => ?_) (fun b_387 => ?_)
        · refine wp_run (k := 2) (pc1 := 18) (l1 := [(0, .ref 1050), (1, .ref 0), (2, .ref 55), (3, .int (iN ((zi) + 5)))]) (st1 := []) (kr1 := (78, 76)) (h1 := zg2) (Eq.trans (b := (some (18, [(0, .ref 1050), (1, .ref 0), (2, .ref 55), (3, .int ((iN (zi)) + iN (5)))], [], (78, 76), zg2) : Option am_C)) rfl (by simp only [Int32.ofInt_add, Int32.ofInt_sub, Int32.ofInt_mul, Int32.ofInt_neg])) ?_
          exact z_ih zg2 P' (n + 1) (zi + 5) p1 q_I2 q_R2 q_s2 q_l2 (by omega) (by omega)
        · exact absurd (b_387.symm.trans (decide_eq_true rfl)) (by decide)
      · refine wp_swc (b := 6) (tg := 392) y_sw rfl (by decide) ?_
        refine wp_run (k := 1) (pc1 := 393) (l1 := [(0, .ref 1050), (1, .ref 0), (2, .ref 55), (3, .int (iN (zi)))]) (st1 := [.ref 0]) (kr1 := (78, 76)) (h1 := zg) rfl ?_
        obtain ⟨v, P', p1, cL, cR⟩ := jo_read (zd + 8) (by omega) (n := n) (P := P)  (by omega) q_P 
        refine wp_call (md1 := am_m_Lp_read) (As := [.ref 0]) (rest := []) (kr1 := (78, 76)) rfl (cL zg q_I) ?_
        rintro _ zg1 ⟨rfl, q_I1, q_k1⟩
        have q_s1 : zg1.1 1050 = xs := (q_k1 1050 (by decide)).1.trans q_s
        have q_l1 : zg1.1 1051 0 = iN (zL : Int) := (congrFun (q_k1 1051 (by decide)).1 0).trans q_l
        have q_R1 := zIR_k q_k1 q_R
        refine wp_run (k := 1) (pc1 := 397) (l1 := [(0, .ref 1050), (1, .ref 0), (2, .ref 55), (3, .int (iN (zi)))]) (st1 := [.ref 55, .int (v)]) (kr1 := (78, 76)) (h1 := zg1) rfl ?_
        refine wp_call (md1 := am_m_Model_read) (As := [.ref 55]) (rest := [.int (v)]) (kr1 := (78, 76)) rfl (cR zg1 q_R1) ?_
        rintro _ zg2 ⟨rfl, q_R2, q_k2⟩
        have q_s2 : zg2.1 1050 = xs := (q_k2.1 1050 (by decide)).trans q_s1
        have q_l2 : zg2.1 1051 0 = iN (zL : Int) := (congrFun (q_k2.1 1051 (by decide)) 0).trans q_l1
        have q_I2 := zIL_k q_k2 q_I1
        refine wp_bra rfl (fun b_400 => ?_) (fun b_400 => ?_)
        · refine wp_run (k := 2) (pc1 := 18) (l1 := [(0, .ref 1050), (1, .ref 0), (2, .ref 55), (3, .int (iN ((zi) + 5)))]) (st1 := []) (kr1 := (78, 76)) (h1 := zg2) (Eq.trans (b := (some (18, [(0, .ref 1050), (1, .ref 0), (2, .ref 55), (3, .int ((iN (zi)) + iN (5)))], [], (78, 76), zg2) : Option am_C)) rfl (by simp only [Int32.ofInt_add, Int32.ofInt_sub, Int32.ofInt_mul, Int32.ofInt_neg])) ?_
          exact z_ih zg2 P' (n + 1) (zi + 5) p1 q_I2 q_R2 q_s2 q_l2 (by omega) (by omega)
        · exact absurd (b_400.symm.trans (decide_eq_true rfl)) (by decide)
      · refine wp_swc (b := 7) (tg := 405) y_sw rfl (by decide) ?_
        refine wp_run (k := 1) (pc1 := 406) (l1 := [(0, .ref 1050), (1, .ref 0), (2, .ref 55), (3, .int (iN (zi)))]) (st1 := [.ref 0]) (kr1 := (78, 76)) (h1 := zg) rfl ?_
        obtain ⟨v, P', p1, cL, cR⟩ := jo_least (zd + 8) (by omega) (n := n) (P := P)  (by omega) q_P 
        refine wp_call (md1 := am_m_Lp_least) (As := [.ref 0]) (rest := []) (kr1 := (78, 76)) rfl (cL zg q_I) ?_
        rintro _ zg1 ⟨rfl, q_I1, q_k1⟩
        have q_s1 : zg1.1 1050 = xs := (q_k1 1050 (by decide)).1.trans q_s
        have q_l1 : zg1.1 1051 0 = iN (zL : Int) := (congrFun (q_k1 1051 (by decide)).1 0).trans q_l
        have q_R1 := zIR_k q_k1 q_R
        refine wp_run (k := 1) (pc1 := 410) (l1 := [(0, .ref 1050), (1, .ref 0), (2, .ref 55), (3, .int (iN (zi)))]) (st1 := [.ref 55, .int (v)]) (kr1 := (78, 76)) (h1 := zg1) rfl ?_
        refine wp_call (md1 := am_m_Model_least) (As := [.ref 55]) (rest := [.int (v)]) (kr1 := (78, 76)) rfl (cR zg1 q_R1) ?_
        rintro _ zg2 ⟨rfl, q_R2, q_k2⟩
        have q_s2 : zg2.1 1050 = xs := (q_k2.1 1050 (by decide)).trans q_s1
        have q_l2 : zg2.1 1051 0 = iN (zL : Int) := (congrFun (q_k2.1 1051 (by decide)) 0).trans q_l1
        have q_I2 := zIL_k q_k2 q_I1
        refine wp_bra rfl (fun b_413 => ?_) (fun b_413 => ?_)
        · refine wp_run (k := 2) (pc1 := 18) (l1 := [(0, .ref 1050), (1, .ref 0), (2, .ref 55), (3, .int (iN ((zi) + 5)))]) (st1 := []) (kr1 := (78, 76)) (h1 := zg2) (Eq.trans (b := (some (18, [(0, .ref 1050), (1, .ref 0), (2, .ref 55), (3, .int ((iN (zi)) + iN (5)))], [], (78, 76), zg2) : Option am_C)) rfl (by simp only [Int32.ofInt_add, Int32.ofInt_sub, Int32.ofInt_mul, Int32.ofInt_neg])) ?_
          exact z_ih zg2 P' (n + 1) (zi + 5) p1 q_I2 q_R2 q_s2 q_l2 (by omega) (by omega)
        · exact absurd (b_413.symm.trans (decide_eq_true rfl)) (by decide)
      · refine wp_swc (b := 8) (tg := 418) y_sw rfl (by decide) ?_
        refine wp_run (k := 5) (pc1 := 423) (l1 := [(0, .ref 1050), (1, .ref 0), (2, .ref 55), (3, .int (iN (zi)))]) (st1 := [.int (iN ((zi) + (1))), .ref 1050, .ref 0]) (kr1 := (78, 76)) (h1 := zg) (Eq.trans (b := (some (423, [(0, .ref 1050), (1, .ref 0), (2, .ref 55), (3, .int (iN (zi)))], [.int ((iN (zi)) + (iN (1))), .ref 1050, .ref 0], (78, 76), zg) : Option am_C)) rfl (by simp only [Int32.ofInt_add, Int32.ofInt_sub, Int32.ofInt_mul, Int32.ofInt_neg])) ?_
        refine wp_iald  (z := (zi) + (1)) (j := (zi + 1).toNat) (n := zL) (v := iN ((xs (zi + 1).toNat).toInt)) rfl (am_ar_50 q_l q_L) (by omega) (by omega) (by omega) (by rw [q_s]; exact (iN_self _).symm) ?_
        refine wp_run (k := 4) (pc1 := 428) (l1 := [(0, .ref 1050), (1, .ref 0), (2, .ref 55), (3, .int (iN (zi)))]) (st1 := [.int (iN ((zi) + (2))), .ref 1050, .int (iN ((xs (zi + 1).toNat).toInt)), .ref 0]) (kr1 := (78, 76)) (h1 := zg) (Eq.trans (b := (some (428, [(0, .ref 1050), (1, .ref 0), (2, .ref 55), (3, .int (iN (zi)))], [.int ((iN (zi)) + (iN (2))), .ref 1050, .int (iN ((xs (zi + 1).toNat).toInt)), .ref 0], (78, 76), zg) : Option am_C)) rfl (by simp only [Int32.ofInt_add, Int32.ofInt_sub, Int32.ofInt_mul, Int32.ofInt_neg])) ?_
        refine wp_iald  (z := (zi) + (2)) (j := (zi + 2).toNat) (n := zL) (v := iN ((xs (zi + 2).toNat).toInt)) rfl (am_ar_50 q_l q_L) (by omega) (by omega) (by omega) (by rw [q_s]; exact (iN_self _).symm) ?_
        obtain ⟨v, P', p1, cL, cR⟩ := jo_lot (zd + 8) (by omega) (n := n) (P := P) (zi := (xs (zi + 1).toNat).toInt) (zw := (xs (zi + 2).toNat).toInt) (by omega) q_P (iN_rg _) (iN_rg _)
        refine wp_call (md1 := am_m_Lp_lot) (As := [.ref 0, .int (iN ((xs (zi + 1).toNat).toInt)), .int (iN ((xs (zi + 2).toNat).toInt))]) (rest := []) (kr1 := (78, 76)) rfl (cL zg q_I) ?_
        rintro _ zg1 ⟨rfl, q_I1, q_k1⟩
        have q_s1 : zg1.1 1050 = xs := (q_k1 1050 (by decide)).1.trans q_s
        have q_l1 : zg1.1 1051 0 = iN (zL : Int) := (congrFun (q_k1 1051 (by decide)).1 0).trans q_l
        have q_R1 := zIR_k q_k1 q_R
        refine wp_run (k := 5) (pc1 := 437) (l1 := [(0, .ref 1050), (1, .ref 0), (2, .ref 55), (3, .int (iN (zi)))]) (st1 := [.int (iN ((zi) + (1))), .ref 1050, .ref 55, .int (v)]) (kr1 := (78, 76)) (h1 := zg1) (Eq.trans (b := (some (437, [(0, .ref 1050), (1, .ref 0), (2, .ref 55), (3, .int (iN (zi)))], [.int ((iN (zi)) + (iN (1))), .ref 1050, .ref 55, .int (v)], (78, 76), zg1) : Option am_C)) rfl (by simp only [Int32.ofInt_add, Int32.ofInt_sub, Int32.ofInt_mul, Int32.ofInt_neg])) ?_
        refine wp_iald  (z := (zi) + (1)) (j := (zi + 1).toNat) (n := zL) (v := iN ((xs (zi + 1).toNat).toInt)) rfl (am_ar_50 q_l1 q_L) (by omega) (by omega) (by omega) (by rw [q_s1]; exact (iN_self _).symm) ?_
        refine wp_run (k := 4) (pc1 := 442) (l1 := [(0, .ref 1050), (1, .ref 0), (2, .ref 55), (3, .int (iN (zi)))]) (st1 := [.int (iN ((zi) + (2))), .ref 1050, .int (iN ((xs (zi + 1).toNat).toInt)), .ref 55, .int (v)]) (kr1 := (78, 76)) (h1 := zg1) (Eq.trans (b := (some (442, [(0, .ref 1050), (1, .ref 0), (2, .ref 55), (3, .int (iN (zi)))], [.int ((iN (zi)) + (iN (2))), .ref 1050, .int (iN ((xs (zi + 1).toNat).toInt)), .ref 55, .int (v)], (78, 76), zg1) : Option am_C)) rfl (by simp only [Int32.ofInt_add, Int32.ofInt_sub, Int32.ofInt_mul, Int32.ofInt_neg])) ?_
        refine wp_iald  (z := (zi) + (2)) (j := (zi + 2).toNat) (n := zL) (v := iN ((xs (zi + 2).toNat).toInt)) rfl (am_ar_50 q_l1 q_L) (by omega) (by omega) (by omega) (by rw [q_s1]; exact (iN_self _).symm) ?_
        refine wp_call (md1 := am_m_Model_lot) (As := [.ref 55, .int (iN ((xs (zi + 1).toNat).toInt)), .int (iN ((xs (zi + 2).toNat).toInt))]) (rest := [.int (v)]) (kr1 := (78, 76)) rfl (cR zg1 q_R1) ?_
        rintro _ zg2 ⟨rfl, q_R2, q_k2⟩
        have q_s2 : zg2.1 1050 = xs := (q_k2.1 1050 (by decide)).trans q_s1
        have q_l2 : zg2.1 1051 0 = iN (zL : Int) := (congrFun (q_k2.1 1051 (by decide)) 0).trans q_l1
        have q_I2 := zIL_k q_k2 q_I1
        refine wp_bra rfl (fun b_446 => ?_) (fun b_446 => ?_)
        · refine wp_run (k := 2) (pc1 := 18) (l1 := [(0, .ref 1050), (1, .ref 0), (2, .ref 55), (3, .int (iN ((zi) + 5)))]) (st1 := []) (kr1 := (78, 76)) (h1 := zg2) (Eq.trans (b := (some (18, [(0, .ref 1050), (1, .ref 0), (2, .ref 55), (3, .int ((iN (zi)) + iN (5)))], [], (78, 76), zg2) : Option am_C)) rfl (by simp only [Int32.ofInt_add, Int32.ofInt_sub, Int32.ofInt_mul, Int32.ofInt_neg])) ?_
          exact z_ih zg2 P' (n + 1) (zi + 5) p1 q_I2 q_R2 q_s2 q_l2 (by omega) (by omega)
        · exact absurd (b_446.symm.trans (decide_eq_true rfl)) (by decide)
      · refine wp_swc (b := 9) (tg := 451) y_sw rfl (by decide) ?_
        refine wp_run (k := 5) (pc1 := 456) (l1 := [(0, .ref 1050), (1, .ref 0), (2, .ref 55), (3, .int (iN (zi)))]) (st1 := [.int (iN ((zi) + (1))), .ref 1050, .ref 0]) (kr1 := (78, 76)) (h1 := zg) (Eq.trans (b := (some (456, [(0, .ref 1050), (1, .ref 0), (2, .ref 55), (3, .int (iN (zi)))], [.int ((iN (zi)) + (iN (1))), .ref 1050, .ref 0], (78, 76), zg) : Option am_C)) rfl (by simp only [Int32.ofInt_add, Int32.ofInt_sub, Int32.ofInt_mul, Int32.ofInt_neg])) ?_
        refine wp_iald  (z := (zi) + (1)) (j := (zi + 1).toNat) (n := zL) (v := iN ((xs (zi + 1).toNat).toInt)) rfl (am_ar_50 q_l q_L) (by omega) (by omega) (by omega) (by rw [q_s]; exact (iN_self _).symm) ?_
        refine wp_run (k := 4) (pc1 := 461) (l1 := [(0, .ref 1050), (1, .ref 0), (2, .ref 55), (3, .int (iN (zi)))]) (st1 := [.int (iN ((zi) + (2))), .ref 1050, .int (iN ((xs (zi + 1).toNat).toInt)), .ref 0]) (kr1 := (78, 76)) (h1 := zg) (Eq.trans (b := (some (461, [(0, .ref 1050), (1, .ref 0), (2, .ref 55), (3, .int (iN (zi)))], [.int ((iN (zi)) + (iN (2))), .ref 1050, .int (iN ((xs (zi + 1).toNat).toInt)), .ref 0], (78, 76), zg) : Option am_C)) rfl (by simp only [Int32.ofInt_add, Int32.ofInt_sub, Int32.ofInt_mul, Int32.ofInt_neg])) ?_
        refine wp_iald  (z := (zi) + (2)) (j := (zi + 2).toNat) (n := zL) (v := iN ((xs (zi + 2).toNat).toInt)) rfl (am_ar_50 q_l q_L) (by omega) (by omega) (by omega) (by rw [q_s]; exact (iN_self _).symm) ?_
        obtain ⟨v, P', p1, cL, cR⟩ := jo_by (zd + 8) (by omega) (n := n) (P := P) (zp := (xs (zi + 1).toNat).toInt) (zw := (xs (zi + 2).toNat).toInt) (by omega) q_P (iN_rg _) (iN_rg _)
        refine wp_call (md1 := am_m_Lp_by) (As := [.ref 0, .int (iN ((xs (zi + 1).toNat).toInt)), .int (iN ((xs (zi + 2).toNat).toInt))]) (rest := []) (kr1 := (78, 76)) rfl (cL zg q_I) ?_
        rintro _ zg1 ⟨rfl, q_I1, q_k1⟩
        have q_s1 : zg1.1 1050 = xs := (q_k1 1050 (by decide)).1.trans q_s
        have q_l1 : zg1.1 1051 0 = iN (zL : Int) := (congrFun (q_k1 1051 (by decide)).1 0).trans q_l
        have q_R1 := zIR_k q_k1 q_R
        refine wp_run (k := 5) (pc1 := 470) (l1 := [(0, .ref 1050), (1, .ref 0), (2, .ref 55), (3, .int (iN (zi)))]) (st1 := [.int (iN ((zi) + (1))), .ref 1050, .ref 55, .int (v)]) (kr1 := (78, 76)) (h1 := zg1) (Eq.trans (b := (some (470, [(0, .ref 1050), (1, .ref 0), (2, .ref 55), (3, .int (iN (zi)))], [.int ((iN (zi)) + (iN (1))), .ref 1050, .ref 55, .int (v)], (78, 76), zg1) : Option am_C)) rfl (by simp only [Int32.ofInt_add, Int32.ofInt_sub, Int32.ofInt_mul, Int32.ofInt_neg])) ?_
        refine wp_iald  (z := (zi) + (1)) (j := (zi + 1).toNat) (n := zL) (v := iN ((xs (zi + 1).toNat).toInt)) rfl (am_ar_50 q_l1 q_L) (by omega) (by omega) (by omega) (by rw [q_s1]; exact (iN_self _).symm) ?_
        refine wp_run (k := 4) (pc1 := 475) (l1 := [(0, .ref 1050), (1, .ref 0), (2, .ref 55), (3, .int (iN (zi)))]) (st1 := [.int (iN ((zi) + (2))), .ref 1050, .int (iN ((xs (zi + 1).toNat).toInt)), .ref 55, .int (v)]) (kr1 := (78, 76)) (h1 := zg1) (Eq.trans (b := (some (475, [(0, .ref 1050), (1, .ref 0), (2, .ref 55), (3, .int (iN (zi)))], [.int ((iN (zi)) + (iN (2))), .ref 1050, .int (iN ((xs (zi + 1).toNat).toInt)), .ref 55, .int (v)], (78, 76), zg1) : Option am_C)) rfl (by simp only [Int32.ofInt_add, Int32.ofInt_sub, Int32.ofInt_mul, Int32.ofInt_neg])) ?_
        refine wp_iald  (z := (zi) + (2)) (j := (zi + 2).toNat) (n := zL) (v := iN ((xs (zi + 2).toNat).toInt)) rfl (am_ar_50 q_l1 q_L) (by omega) (by omega) (by omega) (by rw [q_s1]; exact (iN_self _).symm) ?_
        refine wp_call (md1 := am_m_Model_by) (As := [.ref 55, .int (iN ((xs (zi + 1).toNat).toInt)), .int (iN ((xs (zi + 2).toNat).toInt))]) (rest := [.int (v)]) (kr1 := (78, 76)) rfl (cR zg1 q_R1) ?_
        rintro _ zg2 ⟨rfl, q_R2, q_k2⟩
        have q_s2 : zg2.1 1050 = xs := (q_k2.1 1050 (by decide)).trans q_s1
        have q_l2 : zg2.1 1051 0 = iN (zL : Int) := (congrFun (q_k2.1 1051 (by decide)) 0).trans q_l1
        have q_I2 := zIL_k q_k2 q_I1
        refine wp_bra rfl (fun b_479 => ?_) (fun b_479 => ?_)
        · refine wp_run (k := 2) (pc1 := 18) (l1 := [(0, .ref 1050), (1, .ref 0), (2, .ref 55), (3, .int (iN ((zi) + 5)))]) (st1 := []) (kr1 := (78, 76)) (h1 := zg2) (Eq.trans (b := (some (18, [(0, .ref 1050), (1, .ref 0), (2, .ref 55), (3, .int ((iN (zi)) + iN (5)))], [], (78, 76), zg2) : Option am_C)) rfl (by simp only [Int32.ofInt_add, Int32.ofInt_sub, Int32.ofInt_mul, Int32.ofInt_neg])) ?_
          exact z_ih zg2 P' (n + 1) (zi + 5) p1 q_I2 q_R2 q_s2 q_l2 (by omega) (by omega)
        · exact absurd (b_479.symm.trans (decide_eq_true rfl)) (by decide)
      · refine wp_swc (b := 10) (tg := 484) y_sw rfl (by decide) ?_
        refine wp_run (k := 5) (pc1 := 489) (l1 := [(0, .ref 1050), (1, .ref 0), (2, .ref 55), (3, .int (iN (zi)))]) (st1 := [.int (iN ((zi) + (1))), .ref 1050, .ref 0]) (kr1 := (78, 76)) (h1 := zg) (Eq.trans (b := (some (489, [(0, .ref 1050), (1, .ref 0), (2, .ref 55), (3, .int (iN (zi)))], [.int ((iN (zi)) + (iN (1))), .ref 1050, .ref 0], (78, 76), zg) : Option am_C)) rfl (by simp only [Int32.ofInt_add, Int32.ofInt_sub, Int32.ofInt_mul, Int32.ofInt_neg])) ?_
        refine wp_iald  (z := (zi) + (1)) (j := (zi + 1).toNat) (n := zL) (v := iN ((xs (zi + 1).toNat).toInt)) rfl (am_ar_50 q_l q_L) (by omega) (by omega) (by omega) (by rw [q_s]; exact (iN_self _).symm) ?_
        refine wp_run (k := 4) (pc1 := 494) (l1 := [(0, .ref 1050), (1, .ref 0), (2, .ref 55), (3, .int (iN (zi)))]) (st1 := [.int (iN ((zi) + (2))), .ref 1050, .int (iN ((xs (zi + 1).toNat).toInt)), .ref 0]) (kr1 := (78, 76)) (h1 := zg) (Eq.trans (b := (some (494, [(0, .ref 1050), (1, .ref 0), (2, .ref 55), (3, .int (iN (zi)))], [.int ((iN (zi)) + (iN (2))), .ref 1050, .int (iN ((xs (zi + 1).toNat).toInt)), .ref 0], (78, 76), zg) : Option am_C)) rfl (by simp only [Int32.ofInt_add, Int32.ofInt_sub, Int32.ofInt_mul, Int32.ofInt_neg])) ?_
        refine wp_iald  (z := (zi) + (2)) (j := (zi + 2).toNat) (n := zL) (v := iN ((xs (zi + 2).toNat).toInt)) rfl (am_ar_50 q_l q_L) (by omega) (by omega) (by omega) (by rw [q_s]; exact (iN_self _).symm) ?_
        obtain ⟨v, P', p1, cL, cR⟩ := jo_forward (zd + 8) (by omega) (n := n) (P := P) (zp := (xs (zi + 1).toNat).toInt) (zw := (xs (zi + 2).toNat).toInt) (by omega) q_P (iN_rg _) (iN_rg _)
        refine wp_call (md1 := am_m_Lp_forward) (As := [.ref 0, .int (iN ((xs (zi + 1).toNat).toInt)), .int (iN ((xs (zi + 2).toNat).toInt))]) (rest := []) (kr1 := (78, 76)) rfl (cL zg q_I) ?_
        rintro _ zg1 ⟨rfl, q_I1, q_k1⟩
        have q_s1 : zg1.1 1050 = xs := (q_k1 1050 (by decide)).1.trans q_s
        have q_l1 : zg1.1 1051 0 = iN (zL : Int) := (congrFun (q_k1 1051 (by decide)).1 0).trans q_l
        have q_R1 := zIR_k q_k1 q_R
        refine wp_run (k := 5) (pc1 := 503) (l1 := [(0, .ref 1050), (1, .ref 0), (2, .ref 55), (3, .int (iN (zi)))]) (st1 := [.int (iN ((zi) + (1))), .ref 1050, .ref 55, .int (v)]) (kr1 := (78, 76)) (h1 := zg1) (Eq.trans (b := (some (503, [(0, .ref 1050), (1, .ref 0), (2, .ref 55), (3, .int (iN (zi)))], [.int ((iN (zi)) + (iN (1))), .ref 1050, .ref 55, .int (v)], (78, 76), zg1) : Option am_C)) rfl (by simp only [Int32.ofInt_add, Int32.ofInt_sub, Int32.ofInt_mul, Int32.ofInt_neg])) ?_
        refine wp_iald  (z := (zi) + (1)) (j := (zi + 1).toNat) (n := zL) (v := iN ((xs (zi + 1).toNat).toInt)) rfl (am_ar_50 q_l1 q_L) (by omega) (by omega) (by omega) (by rw [q_s1]; exact (iN_self _).symm) ?_
        refine wp_run (k := 4) (pc1 := 508) (l1 := [(0, .ref 1050), (1, .ref 0), (2, .ref 55), (3, .int (iN (zi)))]) (st1 := [.int (iN ((zi) + (2))), .ref 1050, .int (iN ((xs (zi + 1).toNat).toInt)), .ref 55, .int (v)]) (kr1 := (78, 76)) (h1 := zg1) (Eq.trans (b := (some (508, [(0, .ref 1050), (1, .ref 0), (2, .ref 55), (3, .int (iN (zi)))], [.int ((iN (zi)) + (iN (2))), .ref 1050, .int (iN ((xs (zi + 1).toNat).toInt)), .ref 55, .int (v)], (78, 76), zg1) : Option am_C)) rfl (by simp only [Int32.ofInt_add, Int32.ofInt_sub, Int32.ofInt_mul, Int32.ofInt_neg])) ?_
        refine wp_iald  (z := (zi) + (2)) (j := (zi + 2).toNat) (n := zL) (v := iN ((xs (zi + 2).toNat).toInt)) rfl (am_ar_50 q_l1 q_L) (by omega) (by omega) (by omega) (by rw [q_s1]; exact (iN_self _).symm) ?_
        refine wp_call (md1 := am_m_Model_forward) (As := [.ref 55, .int (iN ((xs (zi + 1).toNat).toInt)), .int (iN ((xs (zi + 2).toNat).toInt))]) (rest := [.int (v)]) (kr1 := (78, 76)) rfl (cR zg1 q_R1) ?_
        rintro _ zg2 ⟨rfl, q_R2, q_k2⟩
        have q_s2 : zg2.1 1050 = xs := (q_k2.1 1050 (by decide)).trans q_s1
        have q_l2 : zg2.1 1051 0 = iN (zL : Int) := (congrFun (q_k2.1 1051 (by decide)) 0).trans q_l1
        have q_I2 := zIL_k q_k2 q_I1
        refine wp_bra rfl (fun b_512 => ?_) (fun b_512 => ?_)
        · refine wp_run (k := 2) (pc1 := 18) (l1 := [(0, .ref 1050), (1, .ref 0), (2, .ref 55), (3, .int (iN ((zi) + 5)))]) (st1 := []) (kr1 := (78, 76)) (h1 := zg2) (Eq.trans (b := (some (18, [(0, .ref 1050), (1, .ref 0), (2, .ref 55), (3, .int ((iN (zi)) + iN (5)))], [], (78, 76), zg2) : Option am_C)) rfl (by simp only [Int32.ofInt_add, Int32.ofInt_sub, Int32.ofInt_mul, Int32.ofInt_neg])) ?_
          exact z_ih zg2 P' (n + 1) (zi + 5) p1 q_I2 q_R2 q_s2 q_l2 (by omega) (by omega)
        · exact absurd (b_512.symm.trans (decide_eq_true rfl)) (by decide)
      · refine wp_swc (b := 11) (tg := 517) y_sw rfl (by decide) ?_
        refine wp_run (k := 1) (pc1 := 518) (l1 := [(0, .ref 1050), (1, .ref 0), (2, .ref 55), (3, .int (iN (zi)))]) (st1 := [.ref 0]) (kr1 := (78, 76)) (h1 := zg) rfl ?_
        obtain ⟨v, P', p1, cL, cR⟩ := jo_calm (zd + 8) (by omega) (n := n) (P := P)  (by omega) q_P 
        refine wp_call (md1 := am_m_Lp_calm) (As := [.ref 0]) (rest := []) (kr1 := (78, 76)) rfl (cL zg q_I) ?_
        rintro _ zg1 ⟨rfl, q_I1, q_k1⟩
        have q_s1 : zg1.1 1050 = xs := (q_k1 1050 (by decide)).1.trans q_s
        have q_l1 : zg1.1 1051 0 = iN (zL : Int) := (congrFun (q_k1 1051 (by decide)).1 0).trans q_l
        have q_R1 := zIR_k q_k1 q_R
        refine wp_run (k := 1) (pc1 := 522) (l1 := [(0, .ref 1050), (1, .ref 0), (2, .ref 55), (3, .int (iN (zi)))]) (st1 := [.ref 55, .int (v)]) (kr1 := (78, 76)) (h1 := zg1) rfl ?_
        refine wp_call (md1 := am_m_Model_calm) (As := [.ref 55]) (rest := [.int (v)]) (kr1 := (78, 76)) rfl (cR zg1 q_R1) ?_
        rintro _ zg2 ⟨rfl, q_R2, q_k2⟩
        have q_s2 : zg2.1 1050 = xs := (q_k2.1 1050 (by decide)).trans q_s1
        have q_l2 : zg2.1 1051 0 = iN (zL : Int) := (congrFun (q_k2.1 1051 (by decide)) 0).trans q_l1
        have q_I2 := zIL_k q_k2 q_I1
        refine wp_bra rfl (fun b_525 => ?_) (fun b_525 => ?_)
        · refine wp_run (k := 2) (pc1 := 18) (l1 := [(0, .ref 1050), (1, .ref 0), (2, .ref 55), (3, .int (iN ((zi) + 5)))]) (st1 := []) (kr1 := (78, 76)) (h1 := zg2) (Eq.trans (b := (some (18, [(0, .ref 1050), (1, .ref 0), (2, .ref 55), (3, .int ((iN (zi)) + iN (5)))], [], (78, 76), zg2) : Option am_C)) rfl (by simp only [Int32.ofInt_add, Int32.ofInt_sub, Int32.ofInt_mul, Int32.ofInt_neg])) ?_
          exact z_ih zg2 P' (n + 1) (zi + 5) p1 q_I2 q_R2 q_s2 q_l2 (by omega) (by omega)
        · exact absurd (b_525.symm.trans (decide_eq_true rfl)) (by decide)
      · refine wp_swc (b := 12) (tg := 530) y_sw rfl (by decide) ?_
        refine wp_run (k := 5) (pc1 := 535) (l1 := [(0, .ref 1050), (1, .ref 0), (2, .ref 55), (3, .int (iN (zi)))]) (st1 := [.int (iN ((zi) + (1))), .ref 1050, .ref 0]) (kr1 := (78, 76)) (h1 := zg) (Eq.trans (b := (some (535, [(0, .ref 1050), (1, .ref 0), (2, .ref 55), (3, .int (iN (zi)))], [.int ((iN (zi)) + (iN (1))), .ref 1050, .ref 0], (78, 76), zg) : Option am_C)) rfl (by simp only [Int32.ofInt_add, Int32.ofInt_sub, Int32.ofInt_mul, Int32.ofInt_neg])) ?_
        refine wp_iald  (z := (zi) + (1)) (j := (zi + 1).toNat) (n := zL) (v := iN ((xs (zi + 1).toNat).toInt)) rfl (am_ar_50 q_l q_L) (by omega) (by omega) (by omega) (by rw [q_s]; exact (iN_self _).symm) ?_
        refine wp_run (k := 4) (pc1 := 540) (l1 := [(0, .ref 1050), (1, .ref 0), (2, .ref 55), (3, .int (iN (zi)))]) (st1 := [.int (iN ((zi) + (2))), .ref 1050, .int (iN ((xs (zi + 1).toNat).toInt)), .ref 0]) (kr1 := (78, 76)) (h1 := zg) (Eq.trans (b := (some (540, [(0, .ref 1050), (1, .ref 0), (2, .ref 55), (3, .int (iN (zi)))], [.int ((iN (zi)) + (iN (2))), .ref 1050, .int (iN ((xs (zi + 1).toNat).toInt)), .ref 0], (78, 76), zg) : Option am_C)) rfl (by simp only [Int32.ofInt_add, Int32.ofInt_sub, Int32.ofInt_mul, Int32.ofInt_neg])) ?_
        refine wp_iald  (z := (zi) + (2)) (j := (zi + 2).toNat) (n := zL) (v := iN ((xs (zi + 2).toNat).toInt)) rfl (am_ar_50 q_l q_L) (by omega) (by omega) (by omega) (by rw [q_s]; exact (iN_self _).symm) ?_
        obtain ⟨v, P', p1, cL, cR⟩ := jo_part (zd + 8) (by omega) (n := n) (P := P) (za := (xs (zi + 1).toNat).toInt) (zn := (xs (zi + 2).toNat).toInt) (by omega) q_P (iN_rg _) (iN_rg _)
        refine wp_call (md1 := am_m_Lp_part) (As := [.ref 0, .int (iN ((xs (zi + 1).toNat).toInt)), .int (iN ((xs (zi + 2).toNat).toInt))]) (rest := []) (kr1 := (78, 76)) rfl (cL zg q_I) ?_
        rintro _ zg1 ⟨rfl, q_I1, q_k1⟩
        have q_s1 : zg1.1 1050 = xs := (q_k1 1050 (by decide)).1.trans q_s
        have q_l1 : zg1.1 1051 0 = iN (zL : Int) := (congrFun (q_k1 1051 (by decide)).1 0).trans q_l
        have q_R1 := zIR_k q_k1 q_R
        refine wp_run (k := 5) (pc1 := 549) (l1 := [(0, .ref 1050), (1, .ref 0), (2, .ref 55), (3, .int (iN (zi)))]) (st1 := [.int (iN ((zi) + (1))), .ref 1050, .ref 55, .int (v)]) (kr1 := (78, 76)) (h1 := zg1) (Eq.trans (b := (some (549, [(0, .ref 1050), (1, .ref 0), (2, .ref 55), (3, .int (iN (zi)))], [.int ((iN (zi)) + (iN (1))), .ref 1050, .ref 55, .int (v)], (78, 76), zg1) : Option am_C)) rfl (by simp only [Int32.ofInt_add, Int32.ofInt_sub, Int32.ofInt_mul, Int32.ofInt_neg])) ?_
        refine wp_iald  (z := (zi) + (1)) (j := (zi + 1).toNat) (n := zL) (v := iN ((xs (zi + 1).toNat).toInt)) rfl (am_ar_50 q_l1 q_L) (by omega) (by omega) (by omega) (by rw [q_s1]; exact (iN_self _).symm) ?_
        refine wp_run (k := 4) (pc1 := 554) (l1 := [(0, .ref 1050), (1, .ref 0), (2, .ref 55), (3, .int (iN (zi)))]) (st1 := [.int (iN ((zi) + (2))), .ref 1050, .int (iN ((xs (zi + 1).toNat).toInt)), .ref 55, .int (v)]) (kr1 := (78, 76)) (h1 := zg1) (Eq.trans (b := (some (554, [(0, .ref 1050), (1, .ref 0), (2, .ref 55), (3, .int (iN (zi)))], [.int ((iN (zi)) + (iN (2))), .ref 1050, .int (iN ((xs (zi + 1).toNat).toInt)), .ref 55, .int (v)], (78, 76), zg1) : Option am_C)) rfl (by simp only [Int32.ofInt_add, Int32.ofInt_sub, Int32.ofInt_mul, Int32.ofInt_neg])) ?_
        refine wp_iald  (z := (zi) + (2)) (j := (zi + 2).toNat) (n := zL) (v := iN ((xs (zi + 2).toNat).toInt)) rfl (am_ar_50 q_l1 q_L) (by omega) (by omega) (by omega) (by rw [q_s1]; exact (iN_self _).symm) ?_
        refine wp_call (md1 := am_m_Model_part) (As := [.ref 55, .int (iN ((xs (zi + 1).toNat).toInt)), .int (iN ((xs (zi + 2).toNat).toInt))]) (rest := [.int (v)]) (kr1 := (78, 76)) rfl (cR zg1 q_R1) ?_
        rintro _ zg2 ⟨rfl, q_R2, q_k2⟩
        have q_s2 : zg2.1 1050 = xs := (q_k2.1 1050 (by decide)).trans q_s1
        have q_l2 : zg2.1 1051 0 = iN (zL : Int) := (congrFun (q_k2.1 1051 (by decide)) 0).trans q_l1
        have q_I2 := zIL_k q_k2 q_I1
        refine wp_bra rfl (fun b_558 => ?_) (fun b_558 => ?_)
        · refine wp_run (k := 2) (pc1 := 18) (l1 := [(0, .ref 1050), (1, .ref 0), (2, .ref 55), (3, .int (iN ((zi) + 5)))]) (st1 := []) (kr1 := (78, 76)) (h1 := zg2) (Eq.trans (b := (some (18, [(0, .ref 1050), (1, .ref 0), (2, .ref 55), (3, .int ((iN (zi)) + iN (5)))], [], (78, 76), zg2) : Option am_C)) rfl (by simp only [Int32.ofInt_add, Int32.ofInt_sub, Int32.ofInt_mul, Int32.ofInt_neg])) ?_
          exact z_ih zg2 P' (n + 1) (zi + 5) p1 q_I2 q_R2 q_s2 q_l2 (by omega) (by omega)
        · exact absurd (b_558.symm.trans (decide_eq_true rfl)) (by decide)
      · refine wp_swc (b := 13) (tg := 563) y_sw rfl (by decide) ?_
        refine wp_run (k := 1) (pc1 := 564) (l1 := [(0, .ref 1050), (1, .ref 0), (2, .ref 55), (3, .int (iN (zi)))]) (st1 := [.ref 0]) (kr1 := (78, 76)) (h1 := zg) rfl ?_
        obtain ⟨v, P', p1, cL, cR⟩ := jo_ways (zd + 8) (by omega) (n := n) (P := P)  (by omega) q_P 
        refine wp_call (md1 := am_m_Lp_ways) (As := [.ref 0]) (rest := []) (kr1 := (78, 76)) rfl (cL zg q_I) ?_
        rintro _ zg1 ⟨rfl, q_I1, q_k1⟩
        have q_s1 : zg1.1 1050 = xs := (q_k1 1050 (by decide)).1.trans q_s
        have q_l1 : zg1.1 1051 0 = iN (zL : Int) := (congrFun (q_k1 1051 (by decide)).1 0).trans q_l
        have q_R1 := zIR_k q_k1 q_R
        refine wp_run (k := 1) (pc1 := 568) (l1 := [(0, .ref 1050), (1, .ref 0), (2, .ref 55), (3, .int (iN (zi)))]) (st1 := [.ref 55, .int (v)]) (kr1 := (78, 76)) (h1 := zg1) rfl ?_
        refine wp_call (md1 := am_m_Model_ways) (As := [.ref 55]) (rest := [.int (v)]) (kr1 := (78, 76)) rfl (cR zg1 q_R1) ?_
        rintro _ zg2 ⟨rfl, q_R2, q_k2⟩
        have q_s2 : zg2.1 1050 = xs := (q_k2.1 1050 (by decide)).trans q_s1
        have q_l2 : zg2.1 1051 0 = iN (zL : Int) := (congrFun (q_k2.1 1051 (by decide)) 0).trans q_l1
        have q_I2 := zIL_k q_k2 q_I1
        refine wp_bra rfl (fun b_571 => ?_) (fun b_571 => ?_)
        · refine wp_run (k := 2) (pc1 := 18) (l1 := [(0, .ref 1050), (1, .ref 0), (2, .ref 55), (3, .int (iN ((zi) + 5)))]) (st1 := []) (kr1 := (78, 76)) (h1 := zg2) (Eq.trans (b := (some (18, [(0, .ref 1050), (1, .ref 0), (2, .ref 55), (3, .int ((iN (zi)) + iN (5)))], [], (78, 76), zg2) : Option am_C)) rfl (by simp only [Int32.ofInt_add, Int32.ofInt_sub, Int32.ofInt_mul, Int32.ofInt_neg])) ?_
          exact z_ih zg2 P' (n + 1) (zi + 5) p1 q_I2 q_R2 q_s2 q_l2 (by omega) (by omega)
        · exact absurd (b_571.symm.trans (decide_eq_true rfl)) (by decide)
      · refine wp_swc (b := 14) (tg := 576) y_sw rfl (by decide) ?_
        refine wp_run (k := 5) (pc1 := 581) (l1 := [(0, .ref 1050), (1, .ref 0), (2, .ref 55), (3, .int (iN (zi)))]) (st1 := [.int (iN ((zi) + (1))), .ref 1050, .ref 0]) (kr1 := (78, 76)) (h1 := zg) (Eq.trans (b := (some (581, [(0, .ref 1050), (1, .ref 0), (2, .ref 55), (3, .int (iN (zi)))], [.int ((iN (zi)) + (iN (1))), .ref 1050, .ref 0], (78, 76), zg) : Option am_C)) rfl (by simp only [Int32.ofInt_add, Int32.ofInt_sub, Int32.ofInt_mul, Int32.ofInt_neg])) ?_
        refine wp_iald  (z := (zi) + (1)) (j := (zi + 1).toNat) (n := zL) (v := iN ((xs (zi + 1).toNat).toInt)) rfl (am_ar_50 q_l q_L) (by omega) (by omega) (by omega) (by rw [q_s]; exact (iN_self _).symm) ?_
        obtain ⟨v, P', p1, cL, cR⟩ := jo_bounded (zd + 8) (by omega) (n := n) (P := P) (zp := (xs (zi + 1).toNat).toInt) (by omega) q_P (iN_rg _)
        refine wp_call (md1 := am_m_Lp_bounded) (As := [.ref 0, .int (iN ((xs (zi + 1).toNat).toInt))]) (rest := []) (kr1 := (78, 76)) rfl (cL zg q_I) ?_
        rintro _ zg1 ⟨rfl, q_I1, q_k1⟩
        have q_s1 : zg1.1 1050 = xs := (q_k1 1050 (by decide)).1.trans q_s
        have q_l1 : zg1.1 1051 0 = iN (zL : Int) := (congrFun (q_k1 1051 (by decide)).1 0).trans q_l
        have q_R1 := zIR_k q_k1 q_R
        refine wp_run (k := 5) (pc1 := 590) (l1 := [(0, .ref 1050), (1, .ref 0), (2, .ref 55), (3, .int (iN (zi)))]) (st1 := [.int (iN ((zi) + (1))), .ref 1050, .ref 55, .int (v)]) (kr1 := (78, 76)) (h1 := zg1) (Eq.trans (b := (some (590, [(0, .ref 1050), (1, .ref 0), (2, .ref 55), (3, .int (iN (zi)))], [.int ((iN (zi)) + (iN (1))), .ref 1050, .ref 55, .int (v)], (78, 76), zg1) : Option am_C)) rfl (by simp only [Int32.ofInt_add, Int32.ofInt_sub, Int32.ofInt_mul, Int32.ofInt_neg])) ?_
        refine wp_iald  (z := (zi) + (1)) (j := (zi + 1).toNat) (n := zL) (v := iN ((xs (zi + 1).toNat).toInt)) rfl (am_ar_50 q_l1 q_L) (by omega) (by omega) (by omega) (by rw [q_s1]; exact (iN_self _).symm) ?_
        refine wp_call (md1 := am_m_Model_bounded) (As := [.ref 55, .int (iN ((xs (zi + 1).toNat).toInt))]) (rest := [.int (v)]) (kr1 := (78, 76)) rfl (cR zg1 q_R1) ?_
        rintro _ zg2 ⟨rfl, q_R2, q_k2⟩
        have q_s2 : zg2.1 1050 = xs := (q_k2.1 1050 (by decide)).trans q_s1
        have q_l2 : zg2.1 1051 0 = iN (zL : Int) := (congrFun (q_k2.1 1051 (by decide)) 0).trans q_l1
        have q_I2 := zIL_k q_k2 q_I1
        refine wp_bra rfl (fun b_594 => ?_) (fun b_594 => ?_)
        · refine wp_run (k := 2) (pc1 := 18) (l1 := [(0, .ref 1050), (1, .ref 0), (2, .ref 55), (3, .int (iN ((zi) + 5)))]) (st1 := []) (kr1 := (78, 76)) (h1 := zg2) (Eq.trans (b := (some (18, [(0, .ref 1050), (1, .ref 0), (2, .ref 55), (3, .int ((iN (zi)) + iN (5)))], [], (78, 76), zg2) : Option am_C)) rfl (by simp only [Int32.ofInt_add, Int32.ofInt_sub, Int32.ofInt_mul, Int32.ofInt_neg])) ?_
          exact z_ih zg2 P' (n + 1) (zi + 5) p1 q_I2 q_R2 q_s2 q_l2 (by omega) (by omega)
        · exact absurd (b_594.symm.trans (decide_eq_true rfl)) (by decide)
      · refine wp_swc (b := 15) (tg := 599) y_sw rfl (by decide) ?_
        refine wp_run (k := 5) (pc1 := 604) (l1 := [(0, .ref 1050), (1, .ref 0), (2, .ref 55), (3, .int (iN (zi)))]) (st1 := [.int (iN ((zi) + (1))), .ref 1050, .ref 0]) (kr1 := (78, 76)) (h1 := zg) (Eq.trans (b := (some (604, [(0, .ref 1050), (1, .ref 0), (2, .ref 55), (3, .int (iN (zi)))], [.int ((iN (zi)) + (iN (1))), .ref 1050, .ref 0], (78, 76), zg) : Option am_C)) rfl (by simp only [Int32.ofInt_add, Int32.ofInt_sub, Int32.ofInt_mul, Int32.ofInt_neg])) ?_
        refine wp_iald  (z := (zi) + (1)) (j := (zi + 1).toNat) (n := zL) (v := iN ((xs (zi + 1).toNat).toInt)) rfl (am_ar_50 q_l q_L) (by omega) (by omega) (by omega) (by rw [q_s]; exact (iN_self _).symm) ?_
        refine wp_run (k := 4) (pc1 := 609) (l1 := [(0, .ref 1050), (1, .ref 0), (2, .ref 55), (3, .int (iN (zi)))]) (st1 := [.int (iN ((zi) + (2))), .ref 1050, .int (iN ((xs (zi + 1).toNat).toInt)), .ref 0]) (kr1 := (78, 76)) (h1 := zg) (Eq.trans (b := (some (609, [(0, .ref 1050), (1, .ref 0), (2, .ref 55), (3, .int (iN (zi)))], [.int ((iN (zi)) + (iN (2))), .ref 1050, .int (iN ((xs (zi + 1).toNat).toInt)), .ref 0], (78, 76), zg) : Option am_C)) rfl (by simp only [Int32.ofInt_add, Int32.ofInt_sub, Int32.ofInt_mul, Int32.ofInt_neg])) ?_
        refine wp_iald  (z := (zi) + (2)) (j := (zi + 2).toNat) (n := zL) (v := iN ((xs (zi + 2).toNat).toInt)) rfl (am_ar_50 q_l q_L) (by omega) (by omega) (by omega) (by rw [q_s]; exact (iN_self _).symm) ?_
        refine wp_run (k := 4) (pc1 := 614) (l1 := [(0, .ref 1050), (1, .ref 0), (2, .ref 55), (3, .int (iN (zi)))]) (st1 := [.int (iN ((zi) + (3))), .ref 1050, .int (iN ((xs (zi + 2).toNat).toInt)), .int (iN ((xs (zi + 1).toNat).toInt)), .ref 0]) (kr1 := (78, 76)) (h1 := zg) (Eq.trans (b := (some (614, [(0, .ref 1050), (1, .ref 0), (2, .ref 55), (3, .int (iN (zi)))], [.int ((iN (zi)) + (iN (3))), .ref 1050, .int (iN ((xs (zi + 2).toNat).toInt)), .int (iN ((xs (zi + 1).toNat).toInt)), .ref 0], (78, 76), zg) : Option am_C)) rfl (by simp only [Int32.ofInt_add, Int32.ofInt_sub, Int32.ofInt_mul, Int32.ofInt_neg])) ?_
        refine wp_iald  (z := (zi) + (3)) (j := (zi + 3).toNat) (n := zL) (v := iN ((xs (zi + 3).toNat).toInt)) rfl (am_ar_50 q_l q_L) (by omega) (by omega) (by omega) (by rw [q_s]; exact (iN_self _).symm) ?_
        obtain ⟨v, P', p1, cL, cR⟩ := jo_rule (zd + 8) (by omega) (n := n) (P := P) (zr := (xs (zi + 1).toNat).toInt) (zn := (xs (zi + 2).toNat).toInt) (zw := (xs (zi + 3).toNat).toInt) (by omega) q_P (iN_rg _) (iN_rg _) (iN_rg _)
        refine wp_call (md1 := am_m_Lp_rule) (As := [.ref 0, .int (iN ((xs (zi + 1).toNat).toInt)), .int (iN ((xs (zi + 2).toNat).toInt)), .int (iN ((xs (zi + 3).toNat).toInt))]) (rest := []) (kr1 := (78, 76)) rfl (cL zg q_I) ?_
        rintro _ zg1 ⟨rfl, q_I1, q_k1⟩
        have q_s1 : zg1.1 1050 = xs := (q_k1 1050 (by decide)).1.trans q_s
        have q_l1 : zg1.1 1051 0 = iN (zL : Int) := (congrFun (q_k1 1051 (by decide)).1 0).trans q_l
        have q_R1 := zIR_k q_k1 q_R
        refine wp_run (k := 5) (pc1 := 623) (l1 := [(0, .ref 1050), (1, .ref 0), (2, .ref 55), (3, .int (iN (zi)))]) (st1 := [.int (iN ((zi) + (1))), .ref 1050, .ref 55, .int (v)]) (kr1 := (78, 76)) (h1 := zg1) (Eq.trans (b := (some (623, [(0, .ref 1050), (1, .ref 0), (2, .ref 55), (3, .int (iN (zi)))], [.int ((iN (zi)) + (iN (1))), .ref 1050, .ref 55, .int (v)], (78, 76), zg1) : Option am_C)) rfl (by simp only [Int32.ofInt_add, Int32.ofInt_sub, Int32.ofInt_mul, Int32.ofInt_neg])) ?_
        refine wp_iald  (z := (zi) + (1)) (j := (zi + 1).toNat) (n := zL) (v := iN ((xs (zi + 1).toNat).toInt)) rfl (am_ar_50 q_l1 q_L) (by omega) (by omega) (by omega) (by rw [q_s1]; exact (iN_self _).symm) ?_
        refine wp_run (k := 4) (pc1 := 628) (l1 := [(0, .ref 1050), (1, .ref 0), (2, .ref 55), (3, .int (iN (zi)))]) (st1 := [.int (iN ((zi) + (2))), .ref 1050, .int (iN ((xs (zi + 1).toNat).toInt)), .ref 55, .int (v)]) (kr1 := (78, 76)) (h1 := zg1) (Eq.trans (b := (some (628, [(0, .ref 1050), (1, .ref 0), (2, .ref 55), (3, .int (iN (zi)))], [.int ((iN (zi)) + (iN (2))), .ref 1050, .int (iN ((xs (zi + 1).toNat).toInt)), .ref 55, .int (v)], (78, 76), zg1) : Option am_C)) rfl (by simp only [Int32.ofInt_add, Int32.ofInt_sub, Int32.ofInt_mul, Int32.ofInt_neg])) ?_
        refine wp_iald  (z := (zi) + (2)) (j := (zi + 2).toNat) (n := zL) (v := iN ((xs (zi + 2).toNat).toInt)) rfl (am_ar_50 q_l1 q_L) (by omega) (by omega) (by omega) (by rw [q_s1]; exact (iN_self _).symm) ?_
        refine wp_run (k := 4) (pc1 := 633) (l1 := [(0, .ref 1050), (1, .ref 0), (2, .ref 55), (3, .int (iN (zi)))]) (st1 := [.int (iN ((zi) + (3))), .ref 1050, .int (iN ((xs (zi + 2).toNat).toInt)), .int (iN ((xs (zi + 1).toNat).toInt)), .ref 55, .int (v)]) (kr1 := (78, 76)) (h1 := zg1) (Eq.trans (b := (some (633, [(0, .ref 1050), (1, .ref 0), (2, .ref 55), (3, .int (iN (zi)))], [.int ((iN (zi)) + (iN (3))), .ref 1050, .int (iN ((xs (zi + 2).toNat).toInt)), .int (iN ((xs (zi + 1).toNat).toInt)), .ref 55, .int (v)], (78, 76), zg1) : Option am_C)) rfl (by simp only [Int32.ofInt_add, Int32.ofInt_sub, Int32.ofInt_mul, Int32.ofInt_neg])) ?_
        refine wp_iald  (z := (zi) + (3)) (j := (zi + 3).toNat) (n := zL) (v := iN ((xs (zi + 3).toNat).toInt)) rfl (am_ar_50 q_l1 q_L) (by omega) (by omega) (by omega) (by rw [q_s1]; exact (iN_self _).symm) ?_
        refine wp_call (md1 := am_m_Model_rule) (As := [.ref 55, .int (iN ((xs (zi + 1).toNat).toInt)), .int (iN ((xs (zi + 2).toNat).toInt)), .int (iN ((xs (zi + 3).toNat).toInt))]) (rest := [.int (v)]) (kr1 := (78, 76)) rfl (cR zg1 q_R1) ?_
        rintro _ zg2 ⟨rfl, q_R2, q_k2⟩
        have q_s2 : zg2.1 1050 = xs := (q_k2.1 1050 (by decide)).trans q_s1
        have q_l2 : zg2.1 1051 0 = iN (zL : Int) := (congrFun (q_k2.1 1051 (by decide)) 0).trans q_l1
        have q_I2 := zIL_k q_k2 q_I1
        refine wp_bra rfl (fun b_637 => ?_) (fun b_637 => ?_)
        · refine wp_run (k := 2) (pc1 := 18) (l1 := [(0, .ref 1050), (1, .ref 0), (2, .ref 55), (3, .int (iN ((zi) + 5)))]) (st1 := []) (kr1 := (78, 76)) (h1 := zg2) (Eq.trans (b := (some (18, [(0, .ref 1050), (1, .ref 0), (2, .ref 55), (3, .int ((iN (zi)) + iN (5)))], [], (78, 76), zg2) : Option am_C)) rfl (by simp only [Int32.ofInt_add, Int32.ofInt_sub, Int32.ofInt_mul, Int32.ofInt_neg])) ?_
          exact z_ih zg2 P' (n + 1) (zi + 5) p1 q_I2 q_R2 q_s2 q_l2 (by omega) (by omega)
        · exact absurd (b_637.symm.trans (decide_eq_true rfl)) (by decide)
      · refine wp_swc (b := 16) (tg := 642) y_sw rfl (by decide) ?_
        refine wp_run (k := 1) (pc1 := 643) (l1 := [(0, .ref 1050), (1, .ref 0), (2, .ref 55), (3, .int (iN (zi)))]) (st1 := [.ref 0]) (kr1 := (78, 76)) (h1 := zg) rfl ?_
        obtain ⟨v, P', p1, cL, cR⟩ := jo_thumb (zd + 8) (by omega) (n := n) (P := P)  (by omega) q_P 
        refine wp_call (md1 := am_m_Lp_thumb) (As := [.ref 0]) (rest := []) (kr1 := (78, 76)) rfl (cL zg q_I) ?_
        rintro _ zg1 ⟨rfl, q_I1, q_k1⟩
        have q_s1 : zg1.1 1050 = xs := (q_k1 1050 (by decide)).1.trans q_s
        have q_l1 : zg1.1 1051 0 = iN (zL : Int) := (congrFun (q_k1 1051 (by decide)).1 0).trans q_l
        have q_R1 := zIR_k q_k1 q_R
        refine wp_run (k := 1) (pc1 := 647) (l1 := [(0, .ref 1050), (1, .ref 0), (2, .ref 55), (3, .int (iN (zi)))]) (st1 := [.ref 55, .int (v)]) (kr1 := (78, 76)) (h1 := zg1) rfl ?_
        refine wp_call (md1 := am_m_Model_thumb) (As := [.ref 55]) (rest := [.int (v)]) (kr1 := (78, 76)) rfl (cR zg1 q_R1) ?_
        rintro _ zg2 ⟨rfl, q_R2, q_k2⟩
        have q_s2 : zg2.1 1050 = xs := (q_k2.1 1050 (by decide)).trans q_s1
        have q_l2 : zg2.1 1051 0 = iN (zL : Int) := (congrFun (q_k2.1 1051 (by decide)) 0).trans q_l1
        have q_I2 := zIL_k q_k2 q_I1
        refine wp_bra rfl (fun b_650 => ?_) (fun b_650 => ?_)
        · refine wp_run (k := 2) (pc1 := 18) (l1 := [(0, .ref 1050), (1, .ref 0), (2, .ref 55), (3, .int (iN ((zi) + 5)))]) (st1 := []) (kr1 := (78, 76)) (h1 := zg2) (Eq.trans (b := (some (18, [(0, .ref 1050), (1, .ref 0), (2, .ref 55), (3, .int ((iN (zi)) + iN (5)))], [], (78, 76), zg2) : Option am_C)) rfl (by simp only [Int32.ofInt_add, Int32.ofInt_sub, Int32.ofInt_mul, Int32.ofInt_neg])) ?_
          exact z_ih zg2 P' (n + 1) (zi + 5) p1 q_I2 q_R2 q_s2 q_l2 (by omega) (by omega)
        · exact absurd (b_650.symm.trans (decide_eq_true rfl)) (by decide)
      · refine wp_swc (b := 17) (tg := 655) y_sw rfl (by decide) ?_
        refine wp_run (k := 5) (pc1 := 660) (l1 := [(0, .ref 1050), (1, .ref 0), (2, .ref 55), (3, .int (iN (zi)))]) (st1 := [.int (iN ((zi) + (1))), .ref 1050, .ref 0]) (kr1 := (78, 76)) (h1 := zg) (Eq.trans (b := (some (660, [(0, .ref 1050), (1, .ref 0), (2, .ref 55), (3, .int (iN (zi)))], [.int ((iN (zi)) + (iN (1))), .ref 1050, .ref 0], (78, 76), zg) : Option am_C)) rfl (by simp only [Int32.ofInt_add, Int32.ofInt_sub, Int32.ofInt_mul, Int32.ofInt_neg])) ?_
        refine wp_iald  (z := (zi) + (1)) (j := (zi + 1).toNat) (n := zL) (v := iN ((xs (zi + 1).toNat).toInt)) rfl (am_ar_50 q_l q_L) (by omega) (by omega) (by omega) (by rw [q_s]; exact (iN_self _).symm) ?_
        obtain ⟨v, P', p1, cL, cR⟩ := jo_more (zd + 8) (by omega) (n := n) (P := P) (zp := (xs (zi + 1).toNat).toInt) (by omega) q_P (iN_rg _)
        refine wp_call (md1 := am_m_Lp_more) (As := [.ref 0, .int (iN ((xs (zi + 1).toNat).toInt))]) (rest := []) (kr1 := (78, 76)) rfl (cL zg q_I) ?_
        rintro _ zg1 ⟨rfl, q_I1, q_k1⟩
        have q_s1 : zg1.1 1050 = xs := (q_k1 1050 (by decide)).1.trans q_s
        have q_l1 : zg1.1 1051 0 = iN (zL : Int) := (congrFun (q_k1 1051 (by decide)).1 0).trans q_l
        have q_R1 := zIR_k q_k1 q_R
        refine wp_run (k := 5) (pc1 := 669) (l1 := [(0, .ref 1050), (1, .ref 0), (2, .ref 55), (3, .int (iN (zi)))]) (st1 := [.int (iN ((zi) + (1))), .ref 1050, .ref 55, .int (v)]) (kr1 := (78, 76)) (h1 := zg1) (Eq.trans (b := (some (669, [(0, .ref 1050), (1, .ref 0), (2, .ref 55), (3, .int (iN (zi)))], [.int ((iN (zi)) + (iN (1))), .ref 1050, .ref 55, .int (v)], (78, 76), zg1) : Option am_C)) rfl (by simp only [Int32.ofInt_add, Int32.ofInt_sub, Int32.ofInt_mul, Int32.ofInt_neg])) ?_
        refine wp_iald  (z := (zi) + (1)) (j := (zi + 1).toNat) (n := zL) (v := iN ((xs (zi + 1).toNat).toInt)) rfl (am_ar_50 q_l1 q_L) (by omega) (by omega) (by omega) (by rw [q_s1]; exact (iN_self _).symm) ?_
        refine wp_call (md1 := am_m_Model_more) (As := [.ref 55, .int (iN ((xs (zi + 1).toNat).toInt))]) (rest := [.int (v)]) (kr1 := (78, 76)) rfl (cR zg1 q_R1) ?_
        rintro _ zg2 ⟨rfl, q_R2, q_k2⟩
        have q_s2 : zg2.1 1050 = xs := (q_k2.1 1050 (by decide)).trans q_s1
        have q_l2 : zg2.1 1051 0 = iN (zL : Int) := (congrFun (q_k2.1 1051 (by decide)) 0).trans q_l1
        have q_I2 := zIL_k q_k2 q_I1
        refine wp_bra rfl (fun b_673 => ?_) (fun b_673 => ?_)
        · refine wp_run (k := 2) (pc1 := 18) (l1 := [(0, .ref 1050), (1, .ref 0), (2, .ref 55), (3, .int (iN ((zi) + 5)))]) (st1 := []) (kr1 := (78, 76)) (h1 := zg2) (Eq.trans (b := (some (18, [(0, .ref 1050), (1, .ref 0), (2, .ref 55), (3, .int ((iN (zi)) + iN (5)))], [], (78, 76), zg2) : Option am_C)) rfl (by simp only [Int32.ofInt_add, Int32.ofInt_sub, Int32.ofInt_mul, Int32.ofInt_neg])) ?_
          exact z_ih zg2 P' (n + 1) (zi + 5) p1 q_I2 q_R2 q_s2 q_l2 (by omega) (by omega)
        · exact absurd (b_673.symm.trans (decide_eq_true rfl)) (by decide)
      · refine wp_swc (b := 18) (tg := 678) y_sw rfl (by decide) ?_
        refine wp_run (k := 5) (pc1 := 683) (l1 := [(0, .ref 1050), (1, .ref 0), (2, .ref 55), (3, .int (iN (zi)))]) (st1 := [.int (iN ((zi) + (1))), .ref 1050, .ref 0]) (kr1 := (78, 76)) (h1 := zg) (Eq.trans (b := (some (683, [(0, .ref 1050), (1, .ref 0), (2, .ref 55), (3, .int (iN (zi)))], [.int ((iN (zi)) + (iN (1))), .ref 1050, .ref 0], (78, 76), zg) : Option am_C)) rfl (by simp only [Int32.ofInt_add, Int32.ofInt_sub, Int32.ofInt_mul, Int32.ofInt_neg])) ?_
        refine wp_iald  (z := (zi) + (1)) (j := (zi + 1).toNat) (n := zL) (v := iN ((xs (zi + 1).toNat).toInt)) rfl (am_ar_50 q_l q_L) (by omega) (by omega) (by omega) (by rw [q_s]; exact (iN_self _).symm) ?_
        obtain ⟨v, P', p1, cL, cR⟩ := jo_keeps (zd + 8) (by omega) (n := n) (P := P) (zp := (xs (zi + 1).toNat).toInt) (by omega) q_P (iN_rg _)
        refine wp_call (md1 := am_m_Lp_keeps) (As := [.ref 0, .int (iN ((xs (zi + 1).toNat).toInt))]) (rest := []) (kr1 := (78, 76)) rfl (cL zg q_I) ?_
        rintro _ zg1 ⟨rfl, q_I1, q_k1⟩
        have q_s1 : zg1.1 1050 = xs := (q_k1 1050 (by decide)).1.trans q_s
        have q_l1 : zg1.1 1051 0 = iN (zL : Int) := (congrFun (q_k1 1051 (by decide)).1 0).trans q_l
        have q_R1 := zIR_k q_k1 q_R
        refine wp_run (k := 5) (pc1 := 692) (l1 := [(0, .ref 1050), (1, .ref 0), (2, .ref 55), (3, .int (iN (zi)))]) (st1 := [.int (iN ((zi) + (1))), .ref 1050, .ref 55, .int (v)]) (kr1 := (78, 76)) (h1 := zg1) (Eq.trans (b := (some (692, [(0, .ref 1050), (1, .ref 0), (2, .ref 55), (3, .int (iN (zi)))], [.int ((iN (zi)) + (iN (1))), .ref 1050, .ref 55, .int (v)], (78, 76), zg1) : Option am_C)) rfl (by simp only [Int32.ofInt_add, Int32.ofInt_sub, Int32.ofInt_mul, Int32.ofInt_neg])) ?_
        refine wp_iald  (z := (zi) + (1)) (j := (zi + 1).toNat) (n := zL) (v := iN ((xs (zi + 1).toNat).toInt)) rfl (am_ar_50 q_l1 q_L) (by omega) (by omega) (by omega) (by rw [q_s1]; exact (iN_self _).symm) ?_
        refine wp_call (md1 := am_m_Model_keeps) (As := [.ref 55, .int (iN ((xs (zi + 1).toNat).toInt))]) (rest := [.int (v)]) (kr1 := (78, 76)) rfl (cR zg1 q_R1) ?_
        rintro _ zg2 ⟨rfl, q_R2, q_k2⟩
        have q_s2 : zg2.1 1050 = xs := (q_k2.1 1050 (by decide)).trans q_s1
        have q_l2 : zg2.1 1051 0 = iN (zL : Int) := (congrFun (q_k2.1 1051 (by decide)) 0).trans q_l1
        have q_I2 := zIL_k q_k2 q_I1
        refine wp_bra rfl (fun b_696 => ?_) (fun b_696 => ?_)
        · refine wp_run (k := 2) (pc1 := 18) (l1 := [(0, .ref 1050), (1, .ref 0), (2, .ref 55), (3, .int (iN ((zi) + 5)))]) (st1 := []) (kr1 := (78, 76)) (h1 := zg2) (Eq.trans (b := (some (18, [(0, .ref 1050), (1, .ref 0), (2, .ref 55), (3, .int ((iN (zi)) + iN (5)))], [], (78, 76), zg2) : Option am_C)) rfl (by simp only [Int32.ofInt_add, Int32.ofInt_sub, Int32.ofInt_mul, Int32.ofInt_neg])) ?_
          exact z_ih zg2 P' (n + 1) (zi + 5) p1 q_I2 q_R2 q_s2 q_l2 (by omega) (by omega)
        · exact absurd (b_696.symm.trans (decide_eq_true rfl)) (by decide)
      · refine wp_swc (b := 19) (tg := 701) y_sw rfl (by decide) ?_
        refine wp_run (k := 5) (pc1 := 706) (l1 := [(0, .ref 1050), (1, .ref 0), (2, .ref 55), (3, .int (iN (zi)))]) (st1 := [.int (iN ((zi) + (1))), .ref 1050, .ref 0]) (kr1 := (78, 76)) (h1 := zg) (Eq.trans (b := (some (706, [(0, .ref 1050), (1, .ref 0), (2, .ref 55), (3, .int (iN (zi)))], [.int ((iN (zi)) + (iN (1))), .ref 1050, .ref 0], (78, 76), zg) : Option am_C)) rfl (by simp only [Int32.ofInt_add, Int32.ofInt_sub, Int32.ofInt_mul, Int32.ofInt_neg])) ?_
        refine wp_iald  (z := (zi) + (1)) (j := (zi + 1).toNat) (n := zL) (v := iN ((xs (zi + 1).toNat).toInt)) rfl (am_ar_50 q_l q_L) (by omega) (by omega) (by omega) (by rw [q_s]; exact (iN_self _).symm) ?_
        refine wp_run (k := 4) (pc1 := 711) (l1 := [(0, .ref 1050), (1, .ref 0), (2, .ref 55), (3, .int (iN (zi)))]) (st1 := [.int (iN ((zi) + (2))), .ref 1050, .int (iN ((xs (zi + 1).toNat).toInt)), .ref 0]) (kr1 := (78, 76)) (h1 := zg) (Eq.trans (b := (some (711, [(0, .ref 1050), (1, .ref 0), (2, .ref 55), (3, .int (iN (zi)))], [.int ((iN (zi)) + (iN (2))), .ref 1050, .int (iN ((xs (zi + 1).toNat).toInt)), .ref 0], (78, 76), zg) : Option am_C)) rfl (by simp only [Int32.ofInt_add, Int32.ofInt_sub, Int32.ofInt_mul, Int32.ofInt_neg])) ?_
        refine wp_iald  (z := (zi) + (2)) (j := (zi + 2).toNat) (n := zL) (v := iN ((xs (zi + 2).toNat).toInt)) rfl (am_ar_50 q_l q_L) (by omega) (by omega) (by omega) (by rw [q_s]; exact (iN_self _).symm) ?_
        refine wp_run (k := 4) (pc1 := 716) (l1 := [(0, .ref 1050), (1, .ref 0), (2, .ref 55), (3, .int (iN (zi)))]) (st1 := [.int (iN ((zi) + (3))), .ref 1050, .int (iN ((xs (zi + 2).toNat).toInt)), .int (iN ((xs (zi + 1).toNat).toInt)), .ref 0]) (kr1 := (78, 76)) (h1 := zg) (Eq.trans (b := (some (716, [(0, .ref 1050), (1, .ref 0), (2, .ref 55), (3, .int (iN (zi)))], [.int ((iN (zi)) + (iN (3))), .ref 1050, .int (iN ((xs (zi + 2).toNat).toInt)), .int (iN ((xs (zi + 1).toNat).toInt)), .ref 0], (78, 76), zg) : Option am_C)) rfl (by simp only [Int32.ofInt_add, Int32.ofInt_sub, Int32.ofInt_mul, Int32.ofInt_neg])) ?_
        refine wp_iald  (z := (zi) + (3)) (j := (zi + 3).toNat) (n := zL) (v := iN ((xs (zi + 3).toNat).toInt)) rfl (am_ar_50 q_l q_L) (by omega) (by omega) (by omega) (by rw [q_s]; exact (iN_self _).symm) ?_
        obtain ⟨v, P', p1, cL, cR⟩ := jo_touched (zd + 8) (by omega) (n := n) (P := P) (zp := (xs (zi + 1).toNat).toInt) (zv := (xs (zi + 2).toNat).toInt) (zw := (xs (zi + 3).toNat).toInt) (by omega) q_P (iN_rg _) (iN_rg _) (iN_rg _)
        refine wp_call (md1 := am_m_Lp_touched) (As := [.ref 0, .int (iN ((xs (zi + 1).toNat).toInt)), .int (iN ((xs (zi + 2).toNat).toInt)), .int (iN ((xs (zi + 3).toNat).toInt))]) (rest := []) (kr1 := (78, 76)) rfl (cL zg q_I) ?_
        rintro _ zg1 ⟨rfl, q_I1, q_k1⟩
        have q_s1 : zg1.1 1050 = xs := (q_k1 1050 (by decide)).1.trans q_s
        have q_l1 : zg1.1 1051 0 = iN (zL : Int) := (congrFun (q_k1 1051 (by decide)).1 0).trans q_l
        have q_R1 := zIR_k q_k1 q_R
        refine wp_run (k := 5) (pc1 := 725) (l1 := [(0, .ref 1050), (1, .ref 0), (2, .ref 55), (3, .int (iN (zi)))]) (st1 := [.int (iN ((zi) + (1))), .ref 1050, .ref 55, .int (v)]) (kr1 := (78, 76)) (h1 := zg1) (Eq.trans (b := (some (725, [(0, .ref 1050), (1, .ref 0), (2, .ref 55), (3, .int (iN (zi)))], [.int ((iN (zi)) + (iN (1))), .ref 1050, .ref 55, .int (v)], (78, 76), zg1) : Option am_C)) rfl (by simp only [Int32.ofInt_add, Int32.ofInt_sub, Int32.ofInt_mul, Int32.ofInt_neg])) ?_
        refine wp_iald  (z := (zi) + (1)) (j := (zi + 1).toNat) (n := zL) (v := iN ((xs (zi + 1).toNat).toInt)) rfl (am_ar_50 q_l1 q_L) (by omega) (by omega) (by omega) (by rw [q_s1]; exact (iN_self _).symm) ?_
        refine wp_run (k := 4) (pc1 := 730) (l1 := [(0, .ref 1050), (1, .ref 0), (2, .ref 55), (3, .int (iN (zi)))]) (st1 := [.int (iN ((zi) + (2))), .ref 1050, .int (iN ((xs (zi + 1).toNat).toInt)), .ref 55, .int (v)]) (kr1 := (78, 76)) (h1 := zg1) (Eq.trans (b := (some (730, [(0, .ref 1050), (1, .ref 0), (2, .ref 55), (3, .int (iN (zi)))], [.int ((iN (zi)) + (iN (2))), .ref 1050, .int (iN ((xs (zi + 1).toNat).toInt)), .ref 55, .int (v)], (78, 76), zg1) : Option am_C)) rfl (by simp only [Int32.ofInt_add, Int32.ofInt_sub, Int32.ofInt_mul, Int32.ofInt_neg])) ?_
        refine wp_iald  (z := (zi) + (2)) (j := (zi + 2).toNat) (n := zL) (v := iN ((xs (zi + 2).toNat).toInt)) rfl (am_ar_50 q_l1 q_L) (by omega) (by omega) (by omega) (by rw [q_s1]; exact (iN_self _).symm) ?_
        refine wp_run (k := 4) (pc1 := 735) (l1 := [(0, .ref 1050), (1, .ref 0), (2, .ref 55), (3, .int (iN (zi)))]) (st1 := [.int (iN ((zi) + (3))), .ref 1050, .int (iN ((xs (zi + 2).toNat).toInt)), .int (iN ((xs (zi + 1).toNat).toInt)), .ref 55, .int (v)]) (kr1 := (78, 76)) (h1 := zg1) (Eq.trans (b := (some (735, [(0, .ref 1050), (1, .ref 0), (2, .ref 55), (3, .int (iN (zi)))], [.int ((iN (zi)) + (iN (3))), .ref 1050, .int (iN ((xs (zi + 2).toNat).toInt)), .int (iN ((xs (zi + 1).toNat).toInt)), .ref 55, .int (v)], (78, 76), zg1) : Option am_C)) rfl (by simp only [Int32.ofInt_add, Int32.ofInt_sub, Int32.ofInt_mul, Int32.ofInt_neg])) ?_
        refine wp_iald  (z := (zi) + (3)) (j := (zi + 3).toNat) (n := zL) (v := iN ((xs (zi + 3).toNat).toInt)) rfl (am_ar_50 q_l1 q_L) (by omega) (by omega) (by omega) (by rw [q_s1]; exact (iN_self _).symm) ?_
        refine wp_call (md1 := am_m_Model_touched) (As := [.ref 55, .int (iN ((xs (zi + 1).toNat).toInt)), .int (iN ((xs (zi + 2).toNat).toInt)), .int (iN ((xs (zi + 3).toNat).toInt))]) (rest := [.int (v)]) (kr1 := (78, 76)) rfl (cR zg1 q_R1) ?_
        rintro _ zg2 ⟨rfl, q_R2, q_k2⟩
        have q_s2 : zg2.1 1050 = xs := (q_k2.1 1050 (by decide)).trans q_s1
        have q_l2 : zg2.1 1051 0 = iN (zL : Int) := (congrFun (q_k2.1 1051 (by decide)) 0).trans q_l1
        have q_I2 := zIL_k q_k2 q_I1
        refine wp_bra rfl (fun b_739 => ?_) (fun b_739 => ?_)
        · refine wp_run (k := 2) (pc1 := 18) (l1 := [(0, .ref 1050), (1, .ref 0), (2, .ref 55), (3, .int (iN ((zi) + 5)))]) (st1 := []) (kr1 := (78, 76)) (h1 := zg2) (Eq.trans (b := (some (18, [(0, .ref 1050), (1, .ref 0), (2, .ref 55), (3, .int ((iN (zi)) + iN (5)))], [], (78, 76), zg2) : Option am_C)) rfl (by simp only [Int32.ofInt_add, Int32.ofInt_sub, Int32.ofInt_mul, Int32.ofInt_neg])) ?_
          exact z_ih zg2 P' (n + 1) (zi + 5) p1 q_I2 q_R2 q_s2 q_l2 (by omega) (by omega)
        · exact absurd (b_739.symm.trans (decide_eq_true rfl)) (by decide)
      · refine wp_swc (b := 20) (tg := 744) y_sw rfl (by decide) ?_
        refine wp_run (k := 5) (pc1 := 749) (l1 := [(0, .ref 1050), (1, .ref 0), (2, .ref 55), (3, .int (iN (zi)))]) (st1 := [.int (iN ((zi) + (1))), .ref 1050, .ref 0]) (kr1 := (78, 76)) (h1 := zg) (Eq.trans (b := (some (749, [(0, .ref 1050), (1, .ref 0), (2, .ref 55), (3, .int (iN (zi)))], [.int ((iN (zi)) + (iN (1))), .ref 1050, .ref 0], (78, 76), zg) : Option am_C)) rfl (by simp only [Int32.ofInt_add, Int32.ofInt_sub, Int32.ofInt_mul, Int32.ofInt_neg])) ?_
        refine wp_iald  (z := (zi) + (1)) (j := (zi + 1).toNat) (n := zL) (v := iN ((xs (zi + 1).toNat).toInt)) rfl (am_ar_50 q_l q_L) (by omega) (by omega) (by omega) (by rw [q_s]; exact (iN_self _).symm) ?_
        refine wp_run (k := 4) (pc1 := 754) (l1 := [(0, .ref 1050), (1, .ref 0), (2, .ref 55), (3, .int (iN (zi)))]) (st1 := [.int (iN ((zi) + (2))), .ref 1050, .int (iN ((xs (zi + 1).toNat).toInt)), .ref 0]) (kr1 := (78, 76)) (h1 := zg) (Eq.trans (b := (some (754, [(0, .ref 1050), (1, .ref 0), (2, .ref 55), (3, .int (iN (zi)))], [.int ((iN (zi)) + (iN (2))), .ref 1050, .int (iN ((xs (zi + 1).toNat).toInt)), .ref 0], (78, 76), zg) : Option am_C)) rfl (by simp only [Int32.ofInt_add, Int32.ofInt_sub, Int32.ofInt_mul, Int32.ofInt_neg])) ?_
        refine wp_iald  (z := (zi) + (2)) (j := (zi + 2).toNat) (n := zL) (v := iN ((xs (zi + 2).toNat).toInt)) rfl (am_ar_50 q_l q_L) (by omega) (by omega) (by omega) (by rw [q_s]; exact (iN_self _).symm) ?_
        obtain ⟨v, P', p1, cL, cR⟩ := jo_hand (zd + 8) (by omega) (n := n) (P := P) (zp := (xs (zi + 1).toNat).toInt) (zv := (xs (zi + 2).toNat).toInt) (by omega) q_P (iN_rg _) (iN_rg _)
        refine wp_call (md1 := am_m_Lp_hand) (As := [.ref 0, .int (iN ((xs (zi + 1).toNat).toInt)), .int (iN ((xs (zi + 2).toNat).toInt))]) (rest := []) (kr1 := (78, 76)) rfl (cL zg q_I) ?_
        rintro _ zg1 ⟨rfl, q_I1, q_k1⟩
        have q_s1 : zg1.1 1050 = xs := (q_k1 1050 (by decide)).1.trans q_s
        have q_l1 : zg1.1 1051 0 = iN (zL : Int) := (congrFun (q_k1 1051 (by decide)).1 0).trans q_l
        have q_R1 := zIR_k q_k1 q_R
        refine wp_run (k := 5) (pc1 := 763) (l1 := [(0, .ref 1050), (1, .ref 0), (2, .ref 55), (3, .int (iN (zi)))]) (st1 := [.int (iN ((zi) + (1))), .ref 1050, .ref 55, .int (v)]) (kr1 := (78, 76)) (h1 := zg1) (Eq.trans (b := (some (763, [(0, .ref 1050), (1, .ref 0), (2, .ref 55), (3, .int (iN (zi)))], [.int ((iN (zi)) + (iN (1))), .ref 1050, .ref 55, .int (v)], (78, 76), zg1) : Option am_C)) rfl (by simp only [Int32.ofInt_add, Int32.ofInt_sub, Int32.ofInt_mul, Int32.ofInt_neg])) ?_
        refine wp_iald  (z := (zi) + (1)) (j := (zi + 1).toNat) (n := zL) (v := iN ((xs (zi + 1).toNat).toInt)) rfl (am_ar_50 q_l1 q_L) (by omega) (by omega) (by omega) (by rw [q_s1]; exact (iN_self _).symm) ?_
        refine wp_run (k := 4) (pc1 := 768) (l1 := [(0, .ref 1050), (1, .ref 0), (2, .ref 55), (3, .int (iN (zi)))]) (st1 := [.int (iN ((zi) + (2))), .ref 1050, .int (iN ((xs (zi + 1).toNat).toInt)), .ref 55, .int (v)]) (kr1 := (78, 76)) (h1 := zg1) (Eq.trans (b := (some (768, [(0, .ref 1050), (1, .ref 0), (2, .ref 55), (3, .int (iN (zi)))], [.int ((iN (zi)) + (iN (2))), .ref 1050, .int (iN ((xs (zi + 1).toNat).toInt)), .ref 55, .int (v)], (78, 76), zg1) : Option am_C)) rfl (by simp only [Int32.ofInt_add, Int32.ofInt_sub, Int32.ofInt_mul, Int32.ofInt_neg])) ?_
        refine wp_iald  (z := (zi) + (2)) (j := (zi + 2).toNat) (n := zL) (v := iN ((xs (zi + 2).toNat).toInt)) rfl (am_ar_50 q_l1 q_L) (by omega) (by omega) (by omega) (by rw [q_s1]; exact (iN_self _).symm) ?_
        refine wp_call (md1 := am_m_Model_hand) (As := [.ref 55, .int (iN ((xs (zi + 1).toNat).toInt)), .int (iN ((xs (zi + 2).toNat).toInt))]) (rest := [.int (v)]) (kr1 := (78, 76)) rfl (cR zg1 q_R1) ?_
        rintro _ zg2 ⟨rfl, q_R2, q_k2⟩
        have q_s2 : zg2.1 1050 = xs := (q_k2.1 1050 (by decide)).trans q_s1
        have q_l2 : zg2.1 1051 0 = iN (zL : Int) := (congrFun (q_k2.1 1051 (by decide)) 0).trans q_l1
        have q_I2 := zIL_k q_k2 q_I1
        refine wp_bra rfl (fun b_772 => ?_) (fun b_772 => ?_)
        · refine wp_run (k := 2) (pc1 := 18) (l1 := [(0, .ref 1050), (1, .ref 0), (2, .ref 55), (3, .int (iN ((zi) + 5)))]) (st1 := []) (kr1 := (78, 76)) (h1 := zg2) (Eq.trans (b := (some (18, [(0, .ref 1050), (1, .ref 0), (2, .ref 55), (3, .int ((iN (zi)) + iN (5)))], [], (78, 76), zg2) : Option am_C)) rfl (by simp only [Int32.ofInt_add, Int32.ofInt_sub, Int32.ofInt_mul, Int32.ofInt_neg])) ?_
          exact z_ih zg2 P' (n + 1) (zi + 5) p1 q_I2 q_R2 q_s2 q_l2 (by omega) (by omega)
        · exact absurd (b_772.symm.trans (decide_eq_true rfl)) (by decide)
      · refine wp_swc (b := 21) (tg := 777) y_sw rfl (by decide) ?_
        refine wp_run (k := 5) (pc1 := 782) (l1 := [(0, .ref 1050), (1, .ref 0), (2, .ref 55), (3, .int (iN (zi)))]) (st1 := [.int (iN ((zi) + (1))), .ref 1050, .ref 0]) (kr1 := (78, 76)) (h1 := zg) (Eq.trans (b := (some (782, [(0, .ref 1050), (1, .ref 0), (2, .ref 55), (3, .int (iN (zi)))], [.int ((iN (zi)) + (iN (1))), .ref 1050, .ref 0], (78, 76), zg) : Option am_C)) rfl (by simp only [Int32.ofInt_add, Int32.ofInt_sub, Int32.ofInt_mul, Int32.ofInt_neg])) ?_
        refine wp_iald  (z := (zi) + (1)) (j := (zi + 1).toNat) (n := zL) (v := iN ((xs (zi + 1).toNat).toInt)) rfl (am_ar_50 q_l q_L) (by omega) (by omega) (by omega) (by rw [q_s]; exact (iN_self _).symm) ?_
        obtain ⟨v, P', p1, cL, cR⟩ := jo_handAs (zd + 8) (by omega) (n := n) (P := P) (zw := (xs (zi + 1).toNat).toInt) (by omega) q_P (iN_rg _)
        refine wp_call (md1 := am_m_Lp_handAs) (As := [.ref 0, .int (iN ((xs (zi + 1).toNat).toInt))]) (rest := []) (kr1 := (78, 76)) rfl (cL zg q_I) ?_
        rintro _ zg1 ⟨rfl, q_I1, q_k1⟩
        have q_s1 : zg1.1 1050 = xs := (q_k1 1050 (by decide)).1.trans q_s
        have q_l1 : zg1.1 1051 0 = iN (zL : Int) := (congrFun (q_k1 1051 (by decide)).1 0).trans q_l
        have q_R1 := zIR_k q_k1 q_R
        refine wp_run (k := 5) (pc1 := 791) (l1 := [(0, .ref 1050), (1, .ref 0), (2, .ref 55), (3, .int (iN (zi)))]) (st1 := [.int (iN ((zi) + (1))), .ref 1050, .ref 55, .int (v)]) (kr1 := (78, 76)) (h1 := zg1) (Eq.trans (b := (some (791, [(0, .ref 1050), (1, .ref 0), (2, .ref 55), (3, .int (iN (zi)))], [.int ((iN (zi)) + (iN (1))), .ref 1050, .ref 55, .int (v)], (78, 76), zg1) : Option am_C)) rfl (by simp only [Int32.ofInt_add, Int32.ofInt_sub, Int32.ofInt_mul, Int32.ofInt_neg])) ?_
        refine wp_iald  (z := (zi) + (1)) (j := (zi + 1).toNat) (n := zL) (v := iN ((xs (zi + 1).toNat).toInt)) rfl (am_ar_50 q_l1 q_L) (by omega) (by omega) (by omega) (by rw [q_s1]; exact (iN_self _).symm) ?_
        refine wp_call (md1 := am_m_Model_handAs) (As := [.ref 55, .int (iN ((xs (zi + 1).toNat).toInt))]) (rest := [.int (v)]) (kr1 := (78, 76)) rfl (cR zg1 q_R1) ?_
        rintro _ zg2 ⟨rfl, q_R2, q_k2⟩
        have q_s2 : zg2.1 1050 = xs := (q_k2.1 1050 (by decide)).trans q_s1
        have q_l2 : zg2.1 1051 0 = iN (zL : Int) := (congrFun (q_k2.1 1051 (by decide)) 0).trans q_l1
        have q_I2 := zIL_k q_k2 q_I1
        refine wp_bra rfl (fun b_795 => ?_) (fun b_795 => ?_)
        · refine wp_run (k := 2) (pc1 := 18) (l1 := [(0, .ref 1050), (1, .ref 0), (2, .ref 55), (3, .int (iN ((zi) + 5)))]) (st1 := []) (kr1 := (78, 76)) (h1 := zg2) (Eq.trans (b := (some (18, [(0, .ref 1050), (1, .ref 0), (2, .ref 55), (3, .int ((iN (zi)) + iN (5)))], [], (78, 76), zg2) : Option am_C)) rfl (by simp only [Int32.ofInt_add, Int32.ofInt_sub, Int32.ofInt_mul, Int32.ofInt_neg])) ?_
          exact z_ih zg2 P' (n + 1) (zi + 5) p1 q_I2 q_R2 q_s2 q_l2 (by omega) (by omega)
        · exact absurd (b_795.symm.trans (decide_eq_true rfl)) (by decide)
      · refine wp_swc (b := 22) (tg := 800) y_sw rfl (by decide) ?_
        refine wp_run (k := 5) (pc1 := 805) (l1 := [(0, .ref 1050), (1, .ref 0), (2, .ref 55), (3, .int (iN (zi)))]) (st1 := [.int (iN ((zi) + (1))), .ref 1050, .ref 0]) (kr1 := (78, 76)) (h1 := zg) (Eq.trans (b := (some (805, [(0, .ref 1050), (1, .ref 0), (2, .ref 55), (3, .int (iN (zi)))], [.int ((iN (zi)) + (iN (1))), .ref 1050, .ref 0], (78, 76), zg) : Option am_C)) rfl (by simp only [Int32.ofInt_add, Int32.ofInt_sub, Int32.ofInt_mul, Int32.ofInt_neg])) ?_
        refine wp_iald  (z := (zi) + (1)) (j := (zi + 1).toNat) (n := zL) (v := iN ((xs (zi + 1).toNat).toInt)) rfl (am_ar_50 q_l q_L) (by omega) (by omega) (by omega) (by rw [q_s]; exact (iN_self _).symm) ?_
        obtain ⟨v, P', p1, cL, cR⟩ := jo_judged (zd + 8) (by omega) (n := n) (P := P) (zw := (xs (zi + 1).toNat).toInt) (by omega) q_P (iN_rg _)
        refine wp_call (md1 := am_m_Lp_judged) (As := [.ref 0, .int (iN ((xs (zi + 1).toNat).toInt))]) (rest := []) (kr1 := (78, 76)) rfl (cL zg q_I) ?_
        rintro _ zg1 ⟨rfl, q_I1, q_k1⟩
        have q_s1 : zg1.1 1050 = xs := (q_k1 1050 (by decide)).1.trans q_s
        have q_l1 : zg1.1 1051 0 = iN (zL : Int) := (congrFun (q_k1 1051 (by decide)).1 0).trans q_l
        have q_R1 := zIR_k q_k1 q_R
        refine wp_run (k := 5) (pc1 := 814) (l1 := [(0, .ref 1050), (1, .ref 0), (2, .ref 55), (3, .int (iN (zi)))]) (st1 := [.int (iN ((zi) + (1))), .ref 1050, .ref 55, .int (v)]) (kr1 := (78, 76)) (h1 := zg1) (Eq.trans (b := (some (814, [(0, .ref 1050), (1, .ref 0), (2, .ref 55), (3, .int (iN (zi)))], [.int ((iN (zi)) + (iN (1))), .ref 1050, .ref 55, .int (v)], (78, 76), zg1) : Option am_C)) rfl (by simp only [Int32.ofInt_add, Int32.ofInt_sub, Int32.ofInt_mul, Int32.ofInt_neg])) ?_
        refine wp_iald  (z := (zi) + (1)) (j := (zi + 1).toNat) (n := zL) (v := iN ((xs (zi + 1).toNat).toInt)) rfl (am_ar_50 q_l1 q_L) (by omega) (by omega) (by omega) (by rw [q_s1]; exact (iN_self _).symm) ?_
        refine wp_call (md1 := am_m_Model_judged) (As := [.ref 55, .int (iN ((xs (zi + 1).toNat).toInt))]) (rest := [.int (v)]) (kr1 := (78, 76)) rfl (cR zg1 q_R1) ?_
        rintro _ zg2 ⟨rfl, q_R2, q_k2⟩
        have q_s2 : zg2.1 1050 = xs := (q_k2.1 1050 (by decide)).trans q_s1
        have q_l2 : zg2.1 1051 0 = iN (zL : Int) := (congrFun (q_k2.1 1051 (by decide)) 0).trans q_l1
        have q_I2 := zIL_k q_k2 q_I1
        refine wp_bra rfl (fun b_818 => ?_) (fun b_818 => ?_)
        · refine wp_run (k := 2) (pc1 := 18) (l1 := [(0, .ref 1050), (1, .ref 0), (2, .ref 55), (3, .int (iN ((zi) + 5)))]) (st1 := []) (kr1 := (78, 76)) (h1 := zg2) (Eq.trans (b := (some (18, [(0, .ref 1050), (1, .ref 0), (2, .ref 55), (3, .int ((iN (zi)) + iN (5)))], [], (78, 76), zg2) : Option am_C)) rfl (by simp only [Int32.ofInt_add, Int32.ofInt_sub, Int32.ofInt_mul, Int32.ofInt_neg])) ?_
          exact z_ih zg2 P' (n + 1) (zi + 5) p1 q_I2 q_R2 q_s2 q_l2 (by omega) (by omega)
        · exact absurd (b_818.symm.trans (decide_eq_true rfl)) (by decide)
      · refine wp_swc (b := 23) (tg := 823) y_sw rfl (by decide) ?_
        refine wp_run (k := 5) (pc1 := 828) (l1 := [(0, .ref 1050), (1, .ref 0), (2, .ref 55), (3, .int (iN (zi)))]) (st1 := [.int (iN ((zi) + (1))), .ref 1050, .ref 0]) (kr1 := (78, 76)) (h1 := zg) (Eq.trans (b := (some (828, [(0, .ref 1050), (1, .ref 0), (2, .ref 55), (3, .int (iN (zi)))], [.int ((iN (zi)) + (iN (1))), .ref 1050, .ref 0], (78, 76), zg) : Option am_C)) rfl (by simp only [Int32.ofInt_add, Int32.ofInt_sub, Int32.ofInt_mul, Int32.ofInt_neg])) ?_
        refine wp_iald  (z := (zi) + (1)) (j := (zi + 1).toNat) (n := zL) (v := iN ((xs (zi + 1).toNat).toInt)) rfl (am_ar_50 q_l q_L) (by omega) (by omega) (by omega) (by rw [q_s]; exact (iN_self _).symm) ?_
        obtain ⟨v, P', p1, cL, cR⟩ := jo_print (zd + 8) (by omega) (n := n) (P := P) (zi := (xs (zi + 1).toNat).toInt) (by omega) q_P (iN_rg _)
        refine wp_call (md1 := am_m_Lp_print) (As := [.ref 0, .int (iN ((xs (zi + 1).toNat).toInt))]) (rest := []) (kr1 := (78, 76)) rfl (cL zg q_I) ?_
        rintro _ zg1 ⟨rfl, q_I1, q_k1⟩
        have q_s1 : zg1.1 1050 = xs := (q_k1 1050 (by decide)).1.trans q_s
        have q_l1 : zg1.1 1051 0 = iN (zL : Int) := (congrFun (q_k1 1051 (by decide)).1 0).trans q_l
        have q_R1 := zIR_k q_k1 q_R
        refine wp_run (k := 5) (pc1 := 837) (l1 := [(0, .ref 1050), (1, .ref 0), (2, .ref 55), (3, .int (iN (zi)))]) (st1 := [.int (iN ((zi) + (1))), .ref 1050, .ref 55, .int (v)]) (kr1 := (78, 76)) (h1 := zg1) (Eq.trans (b := (some (837, [(0, .ref 1050), (1, .ref 0), (2, .ref 55), (3, .int (iN (zi)))], [.int ((iN (zi)) + (iN (1))), .ref 1050, .ref 55, .int (v)], (78, 76), zg1) : Option am_C)) rfl (by simp only [Int32.ofInt_add, Int32.ofInt_sub, Int32.ofInt_mul, Int32.ofInt_neg])) ?_
        refine wp_iald  (z := (zi) + (1)) (j := (zi + 1).toNat) (n := zL) (v := iN ((xs (zi + 1).toNat).toInt)) rfl (am_ar_50 q_l1 q_L) (by omega) (by omega) (by omega) (by rw [q_s1]; exact (iN_self _).symm) ?_
        refine wp_call (md1 := am_m_Model_print) (As := [.ref 55, .int (iN ((xs (zi + 1).toNat).toInt))]) (rest := [.int (v)]) (kr1 := (78, 76)) rfl (cR zg1 q_R1) ?_
        rintro _ zg2 ⟨rfl, q_R2, q_k2⟩
        have q_s2 : zg2.1 1050 = xs := (q_k2.1 1050 (by decide)).trans q_s1
        have q_l2 : zg2.1 1051 0 = iN (zL : Int) := (congrFun (q_k2.1 1051 (by decide)) 0).trans q_l1
        have q_I2 := zIL_k q_k2 q_I1
        refine wp_bra rfl (fun b_841 => ?_) (fun b_841 => ?_)
        · refine wp_run (k := 2) (pc1 := 18) (l1 := [(0, .ref 1050), (1, .ref 0), (2, .ref 55), (3, .int (iN ((zi) + 5)))]) (st1 := []) (kr1 := (78, 76)) (h1 := zg2) (Eq.trans (b := (some (18, [(0, .ref 1050), (1, .ref 0), (2, .ref 55), (3, .int ((iN (zi)) + iN (5)))], [], (78, 76), zg2) : Option am_C)) rfl (by simp only [Int32.ofInt_add, Int32.ofInt_sub, Int32.ofInt_mul, Int32.ofInt_neg])) ?_
          exact z_ih zg2 P' (n + 1) (zi + 5) p1 q_I2 q_R2 q_s2 q_l2 (by omega) (by omega)
        · exact absurd (b_841.symm.trans (decide_eq_true rfl)) (by decide)
      · refine wp_swc (b := 24) (tg := 846) y_sw rfl (by decide) ?_
        refine wp_run (k := 5) (pc1 := 851) (l1 := [(0, .ref 1050), (1, .ref 0), (2, .ref 55), (3, .int (iN (zi)))]) (st1 := [.int (iN ((zi) + (1))), .ref 1050, .ref 0]) (kr1 := (78, 76)) (h1 := zg) (Eq.trans (b := (some (851, [(0, .ref 1050), (1, .ref 0), (2, .ref 55), (3, .int (iN (zi)))], [.int ((iN (zi)) + (iN (1))), .ref 1050, .ref 0], (78, 76), zg) : Option am_C)) rfl (by simp only [Int32.ofInt_add, Int32.ofInt_sub, Int32.ofInt_mul, Int32.ofInt_neg])) ?_
        refine wp_iald  (z := (zi) + (1)) (j := (zi + 1).toNat) (n := zL) (v := iN ((xs (zi + 1).toNat).toInt)) rfl (am_ar_50 q_l q_L) (by omega) (by omega) (by omega) (by rw [q_s]; exact (iN_self _).symm) ?_
        refine wp_run (k := 4) (pc1 := 856) (l1 := [(0, .ref 1050), (1, .ref 0), (2, .ref 55), (3, .int (iN (zi)))]) (st1 := [.int (iN ((zi) + (2))), .ref 1050, .int (iN ((xs (zi + 1).toNat).toInt)), .ref 0]) (kr1 := (78, 76)) (h1 := zg) (Eq.trans (b := (some (856, [(0, .ref 1050), (1, .ref 0), (2, .ref 55), (3, .int (iN (zi)))], [.int ((iN (zi)) + (iN (2))), .ref 1050, .int (iN ((xs (zi + 1).toNat).toInt)), .ref 0], (78, 76), zg) : Option am_C)) rfl (by simp only [Int32.ofInt_add, Int32.ofInt_sub, Int32.ofInt_mul, Int32.ofInt_neg])) ?_
        refine wp_iald  (z := (zi) + (2)) (j := (zi + 2).toNat) (n := zL) (v := iN ((xs (zi + 2).toNat).toInt)) rfl (am_ar_50 q_l q_L) (by omega) (by omega) (by omega) (by rw [q_s]; exact (iN_self _).symm) ?_
        obtain ⟨v, P', p1, cL, cR⟩ := jo_row (zd + 8) (by omega) (n := n) (P := P) (zs := (xs (zi + 1).toNat).toInt) (zn := (xs (zi + 2).toNat).toInt) (by omega) q_P (iN_rg _) (iN_rg _)
        refine wp_call (md1 := am_m_Lp_row) (As := [.ref 0, .int (iN ((xs (zi + 1).toNat).toInt)), .int (iN ((xs (zi + 2).toNat).toInt))]) (rest := []) (kr1 := (78, 76)) rfl (cL zg q_I) ?_
        rintro _ zg1 ⟨rfl, q_I1, q_k1⟩
        have q_s1 : zg1.1 1050 = xs := (q_k1 1050 (by decide)).1.trans q_s
        have q_l1 : zg1.1 1051 0 = iN (zL : Int) := (congrFun (q_k1 1051 (by decide)).1 0).trans q_l
        have q_R1 := zIR_k q_k1 q_R
        refine wp_run (k := 5) (pc1 := 865) (l1 := [(0, .ref 1050), (1, .ref 0), (2, .ref 55), (3, .int (iN (zi)))]) (st1 := [.int (iN ((zi) + (1))), .ref 1050, .ref 55, .int (v)]) (kr1 := (78, 76)) (h1 := zg1) (Eq.trans (b := (some (865, [(0, .ref 1050), (1, .ref 0), (2, .ref 55), (3, .int (iN (zi)))], [.int ((iN (zi)) + (iN (1))), .ref 1050, .ref 55, .int (v)], (78, 76), zg1) : Option am_C)) rfl (by simp only [Int32.ofInt_add, Int32.ofInt_sub, Int32.ofInt_mul, Int32.ofInt_neg])) ?_
        refine wp_iald  (z := (zi) + (1)) (j := (zi + 1).toNat) (n := zL) (v := iN ((xs (zi + 1).toNat).toInt)) rfl (am_ar_50 q_l1 q_L) (by omega) (by omega) (by omega) (by rw [q_s1]; exact (iN_self _).symm) ?_
        refine wp_run (k := 4) (pc1 := 870) (l1 := [(0, .ref 1050), (1, .ref 0), (2, .ref 55), (3, .int (iN (zi)))]) (st1 := [.int (iN ((zi) + (2))), .ref 1050, .int (iN ((xs (zi + 1).toNat).toInt)), .ref 55, .int (v)]) (kr1 := (78, 76)) (h1 := zg1) (Eq.trans (b := (some (870, [(0, .ref 1050), (1, .ref 0), (2, .ref 55), (3, .int (iN (zi)))], [.int ((iN (zi)) + (iN (2))), .ref 1050, .int (iN ((xs (zi + 1).toNat).toInt)), .ref 55, .int (v)], (78, 76), zg1) : Option am_C)) rfl (by simp only [Int32.ofInt_add, Int32.ofInt_sub, Int32.ofInt_mul, Int32.ofInt_neg])) ?_
        refine wp_iald  (z := (zi) + (2)) (j := (zi + 2).toNat) (n := zL) (v := iN ((xs (zi + 2).toNat).toInt)) rfl (am_ar_50 q_l1 q_L) (by omega) (by omega) (by omega) (by rw [q_s1]; exact (iN_self _).symm) ?_
        refine wp_call (md1 := am_m_Model_row) (As := [.ref 55, .int (iN ((xs (zi + 1).toNat).toInt)), .int (iN ((xs (zi + 2).toNat).toInt))]) (rest := [.int (v)]) (kr1 := (78, 76)) rfl (cR zg1 q_R1) ?_
        rintro _ zg2 ⟨rfl, q_R2, q_k2⟩
        have q_s2 : zg2.1 1050 = xs := (q_k2.1 1050 (by decide)).trans q_s1
        have q_l2 : zg2.1 1051 0 = iN (zL : Int) := (congrFun (q_k2.1 1051 (by decide)) 0).trans q_l1
        have q_I2 := zIL_k q_k2 q_I1
        refine wp_bra rfl (fun b_874 => ?_) (fun b_874 => ?_)
        · refine wp_run (k := 2) (pc1 := 18) (l1 := [(0, .ref 1050), (1, .ref 0), (2, .ref 55), (3, .int (iN ((zi) + 5)))]) (st1 := []) (kr1 := (78, 76)) (h1 := zg2) (Eq.trans (b := (some (18, [(0, .ref 1050), (1, .ref 0), (2, .ref 55), (3, .int ((iN (zi)) + iN (5)))], [], (78, 76), zg2) : Option am_C)) rfl (by simp only [Int32.ofInt_add, Int32.ofInt_sub, Int32.ofInt_mul, Int32.ofInt_neg])) ?_
          exact z_ih zg2 P' (n + 1) (zi + 5) p1 q_I2 q_R2 q_s2 q_l2 (by omega) (by omega)
        · exact absurd (b_874.symm.trans (decide_eq_true rfl)) (by decide)
      · refine wp_swc (b := 25) (tg := 879) y_sw rfl (by decide) ?_
        refine wp_run (k := 5) (pc1 := 884) (l1 := [(0, .ref 1050), (1, .ref 0), (2, .ref 55), (3, .int (iN (zi)))]) (st1 := [.int (iN ((zi) + (1))), .ref 1050, .ref 0]) (kr1 := (78, 76)) (h1 := zg) (Eq.trans (b := (some (884, [(0, .ref 1050), (1, .ref 0), (2, .ref 55), (3, .int (iN (zi)))], [.int ((iN (zi)) + (iN (1))), .ref 1050, .ref 0], (78, 76), zg) : Option am_C)) rfl (by simp only [Int32.ofInt_add, Int32.ofInt_sub, Int32.ofInt_mul, Int32.ofInt_neg])) ?_
        refine wp_iald  (z := (zi) + (1)) (j := (zi + 1).toNat) (n := zL) (v := iN ((xs (zi + 1).toNat).toInt)) rfl (am_ar_50 q_l q_L) (by omega) (by omega) (by omega) (by rw [q_s]; exact (iN_self _).symm) ?_
        refine wp_run (k := 4) (pc1 := 889) (l1 := [(0, .ref 1050), (1, .ref 0), (2, .ref 55), (3, .int (iN (zi)))]) (st1 := [.int (iN ((zi) + (2))), .ref 1050, .int (iN ((xs (zi + 1).toNat).toInt)), .ref 0]) (kr1 := (78, 76)) (h1 := zg) (Eq.trans (b := (some (889, [(0, .ref 1050), (1, .ref 0), (2, .ref 55), (3, .int (iN (zi)))], [.int ((iN (zi)) + (iN (2))), .ref 1050, .int (iN ((xs (zi + 1).toNat).toInt)), .ref 0], (78, 76), zg) : Option am_C)) rfl (by simp only [Int32.ofInt_add, Int32.ofInt_sub, Int32.ofInt_mul, Int32.ofInt_neg])) ?_
        refine wp_iald  (z := (zi) + (2)) (j := (zi + 2).toNat) (n := zL) (v := iN ((xs (zi + 2).toNat).toInt)) rfl (am_ar_50 q_l q_L) (by omega) (by omega) (by omega) (by rw [q_s]; exact (iN_self _).symm) ?_
        refine wp_run (k := 4) (pc1 := 894) (l1 := [(0, .ref 1050), (1, .ref 0), (2, .ref 55), (3, .int (iN (zi)))]) (st1 := [.int (iN ((zi) + (3))), .ref 1050, .int (iN ((xs (zi + 2).toNat).toInt)), .int (iN ((xs (zi + 1).toNat).toInt)), .ref 0]) (kr1 := (78, 76)) (h1 := zg) (Eq.trans (b := (some (894, [(0, .ref 1050), (1, .ref 0), (2, .ref 55), (3, .int (iN (zi)))], [.int ((iN (zi)) + (iN (3))), .ref 1050, .int (iN ((xs (zi + 2).toNat).toInt)), .int (iN ((xs (zi + 1).toNat).toInt)), .ref 0], (78, 76), zg) : Option am_C)) rfl (by simp only [Int32.ofInt_add, Int32.ofInt_sub, Int32.ofInt_mul, Int32.ofInt_neg])) ?_
        refine wp_iald  (z := (zi) + (3)) (j := (zi + 3).toNat) (n := zL) (v := iN ((xs (zi + 3).toNat).toInt)) rfl (am_ar_50 q_l q_L) (by omega) (by omega) (by omega) (by rw [q_s]; exact (iN_self _).symm) ?_
        refine wp_run (k := 7) (pc1 := 903) (l1 := [(0, .ref 1050), (1, .ref 0), (2, .ref 55), (3, .int (iN (zi)))]) (st1 := [.int (iN ((zi) + (4))), .ref 1050, .long (((iN ((xs (zi + 3).toNat).toInt)).toInt64) <<< ((iN (32)).toInt64 &&& 63)), .int (iN ((xs (zi + 2).toNat).toInt)), .int (iN ((xs (zi + 1).toNat).toInt)), .ref 0]) (kr1 := (78, 76)) (h1 := zg) (Eq.trans (b := (some (903, [(0, .ref 1050), (1, .ref 0), (2, .ref 55), (3, .int (iN (zi)))], [.int ((iN (zi)) + (iN (4))), .ref 1050, .long (((iN ((xs (zi + 3).toNat).toInt)).toInt64) <<< ((iN (32)).toInt64 &&& 63)), .int (iN ((xs (zi + 2).toNat).toInt)), .int (iN ((xs (zi + 1).toNat).toInt)), .ref 0], (78, 76), zg) : Option am_C)) rfl (by simp only [Int32.ofInt_add, Int32.ofInt_sub, Int32.ofInt_mul, Int32.ofInt_neg])) ?_
        refine wp_iald  (z := (zi) + (4)) (j := (zi + 4).toNat) (n := zL) (v := iN ((xs (zi + 4).toNat).toInt)) rfl (am_ar_50 q_l q_L) (by omega) (by omega) (by omega) (by rw [q_s]; exact (iN_self _).symm) ?_
        refine wp_run (k := 4) (pc1 := 910) (l1 := [(0, .ref 1050), (1, .ref 0), (2, .ref 55), (3, .int (iN (zi)))]) (st1 := [.long ((((iN ((xs (zi + 3).toNat).toInt)).toInt64) <<< ((iN (32)).toInt64 &&& 63)) ||| (((iN ((xs (zi + 4).toNat).toInt)).toInt64) &&& ((4294967295 : Int64)))), .int (iN ((xs (zi + 2).toNat).toInt)), .int (iN ((xs (zi + 1).toNat).toInt)), .ref 0]) (kr1 := (78, 76)) (h1 := zg) rfl ?_
        obtain ⟨v, P', p1, cL, cR⟩ := jo_put (zd + 8) (by omega) (n := n) (P := P) (zs := (xs (zi + 1).toNat).toInt) (zi := (xs (zi + 2).toNat).toInt) (zx := (((iN ((xs (zi + 3).toNat).toInt)).toInt64) <<< ((iN (32)).toInt64 &&& 63)) ||| (((iN ((xs (zi + 4).toNat).toInt)).toInt64) &&& ((4294967295 : Int64)))) (by omega) q_P (iN_rg _) (iN_rg _)
        refine wp_call (md1 := am_m_Lp_put) (As := [.ref 0, .int (iN ((xs (zi + 1).toNat).toInt)), .int (iN ((xs (zi + 2).toNat).toInt)), .long ((((iN ((xs (zi + 3).toNat).toInt)).toInt64) <<< ((iN (32)).toInt64 &&& 63)) ||| (((iN ((xs (zi + 4).toNat).toInt)).toInt64) &&& ((4294967295 : Int64))))]) (rest := []) (kr1 := (78, 76)) rfl (cL zg q_I) ?_
        rintro _ zg1 ⟨rfl, q_I1, q_k1⟩
        have q_s1 : zg1.1 1050 = xs := (q_k1 1050 (by decide)).1.trans q_s
        have q_l1 : zg1.1 1051 0 = iN (zL : Int) := (congrFun (q_k1 1051 (by decide)).1 0).trans q_l
        have q_R1 := zIR_k q_k1 q_R
        refine wp_run (k := 5) (pc1 := 918) (l1 := [(0, .ref 1050), (1, .ref 0), (2, .ref 55), (3, .int (iN (zi)))]) (st1 := [.int (iN ((zi) + (1))), .ref 1050, .ref 55, .int (v)]) (kr1 := (78, 76)) (h1 := zg1) (Eq.trans (b := (some (918, [(0, .ref 1050), (1, .ref 0), (2, .ref 55), (3, .int (iN (zi)))], [.int ((iN (zi)) + (iN (1))), .ref 1050, .ref 55, .int (v)], (78, 76), zg1) : Option am_C)) rfl (by simp only [Int32.ofInt_add, Int32.ofInt_sub, Int32.ofInt_mul, Int32.ofInt_neg])) ?_
        refine wp_iald  (z := (zi) + (1)) (j := (zi + 1).toNat) (n := zL) (v := iN ((xs (zi + 1).toNat).toInt)) rfl (am_ar_50 q_l1 q_L) (by omega) (by omega) (by omega) (by rw [q_s1]; exact (iN_self _).symm) ?_
        refine wp_run (k := 4) (pc1 := 923) (l1 := [(0, .ref 1050), (1, .ref 0), (2, .ref 55), (3, .int (iN (zi)))]) (st1 := [.int (iN ((zi) + (2))), .ref 1050, .int (iN ((xs (zi + 1).toNat).toInt)), .ref 55, .int (v)]) (kr1 := (78, 76)) (h1 := zg1) (Eq.trans (b := (some (923, [(0, .ref 1050), (1, .ref 0), (2, .ref 55), (3, .int (iN (zi)))], [.int ((iN (zi)) + (iN (2))), .ref 1050, .int (iN ((xs (zi + 1).toNat).toInt)), .ref 55, .int (v)], (78, 76), zg1) : Option am_C)) rfl (by simp only [Int32.ofInt_add, Int32.ofInt_sub, Int32.ofInt_mul, Int32.ofInt_neg])) ?_
        refine wp_iald  (z := (zi) + (2)) (j := (zi + 2).toNat) (n := zL) (v := iN ((xs (zi + 2).toNat).toInt)) rfl (am_ar_50 q_l1 q_L) (by omega) (by omega) (by omega) (by rw [q_s1]; exact (iN_self _).symm) ?_
        refine wp_run (k := 4) (pc1 := 928) (l1 := [(0, .ref 1050), (1, .ref 0), (2, .ref 55), (3, .int (iN (zi)))]) (st1 := [.int (iN ((zi) + (3))), .ref 1050, .int (iN ((xs (zi + 2).toNat).toInt)), .int (iN ((xs (zi + 1).toNat).toInt)), .ref 55, .int (v)]) (kr1 := (78, 76)) (h1 := zg1) (Eq.trans (b := (some (928, [(0, .ref 1050), (1, .ref 0), (2, .ref 55), (3, .int (iN (zi)))], [.int ((iN (zi)) + (iN (3))), .ref 1050, .int (iN ((xs (zi + 2).toNat).toInt)), .int (iN ((xs (zi + 1).toNat).toInt)), .ref 55, .int (v)], (78, 76), zg1) : Option am_C)) rfl (by simp only [Int32.ofInt_add, Int32.ofInt_sub, Int32.ofInt_mul, Int32.ofInt_neg])) ?_
        refine wp_iald  (z := (zi) + (3)) (j := (zi + 3).toNat) (n := zL) (v := iN ((xs (zi + 3).toNat).toInt)) rfl (am_ar_50 q_l1 q_L) (by omega) (by omega) (by omega) (by rw [q_s1]; exact (iN_self _).symm) ?_
        refine wp_run (k := 7) (pc1 := 937) (l1 := [(0, .ref 1050), (1, .ref 0), (2, .ref 55), (3, .int (iN (zi)))]) (st1 := [.int (iN ((zi) + (4))), .ref 1050, .long (((iN ((xs (zi + 3).toNat).toInt)).toInt64) <<< ((iN (32)).toInt64 &&& 63)), .int (iN ((xs (zi + 2).toNat).toInt)), .int (iN ((xs (zi + 1).toNat).toInt)), .ref 55, .int (v)]) (kr1 := (78, 76)) (h1 := zg1) (Eq.trans (b := (some (937, [(0, .ref 1050), (1, .ref 0), (2, .ref 55), (3, .int (iN (zi)))], [.int ((iN (zi)) + (iN (4))), .ref 1050, .long (((iN ((xs (zi + 3).toNat).toInt)).toInt64) <<< ((iN (32)).toInt64 &&& 63)), .int (iN ((xs (zi + 2).toNat).toInt)), .int (iN ((xs (zi + 1).toNat).toInt)), .ref 55, .int (v)], (78, 76), zg1) : Option am_C)) rfl (by simp only [Int32.ofInt_add, Int32.ofInt_sub, Int32.ofInt_mul, Int32.ofInt_neg])) ?_
        refine wp_iald  (z := (zi) + (4)) (j := (zi + 4).toNat) (n := zL) (v := iN ((xs (zi + 4).toNat).toInt)) rfl (am_ar_50 q_l1 q_L) (by omega) (by omega) (by omega) (by rw [q_s1]; exact (iN_self _).symm) ?_
        refine wp_run (k := 4) (pc1 := 944) (l1 := [(0, .ref 1050), (1, .ref 0), (2, .ref 55), (3, .int (iN (zi)))]) (st1 := [.long ((((iN ((xs (zi + 3).toNat).toInt)).toInt64) <<< ((iN (32)).toInt64 &&& 63)) ||| (((iN ((xs (zi + 4).toNat).toInt)).toInt64) &&& ((4294967295 : Int64)))), .int (iN ((xs (zi + 2).toNat).toInt)), .int (iN ((xs (zi + 1).toNat).toInt)), .ref 55, .int (v)]) (kr1 := (78, 76)) (h1 := zg1) rfl ?_
        refine wp_call (md1 := am_m_Model_put) (As := [.ref 55, .int (iN ((xs (zi + 1).toNat).toInt)), .int (iN ((xs (zi + 2).toNat).toInt)), .long ((((iN ((xs (zi + 3).toNat).toInt)).toInt64) <<< ((iN (32)).toInt64 &&& 63)) ||| (((iN ((xs (zi + 4).toNat).toInt)).toInt64) &&& ((4294967295 : Int64))))]) (rest := [.int (v)]) (kr1 := (78, 76)) rfl (cR zg1 q_R1) ?_
        rintro _ zg2 ⟨rfl, q_R2, q_k2⟩
        have q_s2 : zg2.1 1050 = xs := (q_k2.1 1050 (by decide)).trans q_s1
        have q_l2 : zg2.1 1051 0 = iN (zL : Int) := (congrFun (q_k2.1 1051 (by decide)) 0).trans q_l1
        have q_I2 := zIL_k q_k2 q_I1
        refine wp_bra rfl (fun b_947 => ?_) (fun b_947 => ?_)
        · refine wp_run (k := 2) (pc1 := 18) (l1 := [(0, .ref 1050), (1, .ref 0), (2, .ref 55), (3, .int (iN ((zi) + 5)))]) (st1 := []) (kr1 := (78, 76)) (h1 := zg2) (Eq.trans (b := (some (18, [(0, .ref 1050), (1, .ref 0), (2, .ref 55), (3, .int ((iN (zi)) + iN (5)))], [], (78, 76), zg2) : Option am_C)) rfl (by simp only [Int32.ofInt_add, Int32.ofInt_sub, Int32.ofInt_mul, Int32.ofInt_neg])) ?_
          exact z_ih zg2 P' (n + 1) (zi + 5) p1 q_I2 q_R2 q_s2 q_l2 (by omega) (by omega)
        · exact absurd (b_947.symm.trans (decide_eq_true rfl)) (by decide)
      · refine wp_swc (b := 26) (tg := 952) y_sw rfl (by decide) ?_
        refine wp_run (k := 5) (pc1 := 957) (l1 := [(0, .ref 1050), (1, .ref 0), (2, .ref 55), (3, .int (iN (zi)))]) (st1 := [.int (iN ((zi) + (1))), .ref 1050, .ref 0]) (kr1 := (78, 76)) (h1 := zg) (Eq.trans (b := (some (957, [(0, .ref 1050), (1, .ref 0), (2, .ref 55), (3, .int (iN (zi)))], [.int ((iN (zi)) + (iN (1))), .ref 1050, .ref 0], (78, 76), zg) : Option am_C)) rfl (by simp only [Int32.ofInt_add, Int32.ofInt_sub, Int32.ofInt_mul, Int32.ofInt_neg])) ?_
        refine wp_iald  (z := (zi) + (1)) (j := (zi + 1).toNat) (n := zL) (v := iN ((xs (zi + 1).toNat).toInt)) rfl (am_ar_50 q_l q_L) (by omega) (by omega) (by omega) (by rw [q_s]; exact (iN_self _).symm) ?_
        refine wp_run (k := 4) (pc1 := 962) (l1 := [(0, .ref 1050), (1, .ref 0), (2, .ref 55), (3, .int (iN (zi)))]) (st1 := [.int (iN ((zi) + (2))), .ref 1050, .int (iN ((xs (zi + 1).toNat).toInt)), .ref 0]) (kr1 := (78, 76)) (h1 := zg) (Eq.trans (b := (some (962, [(0, .ref 1050), (1, .ref 0), (2, .ref 55), (3, .int (iN (zi)))], [.int ((iN (zi)) + (iN (2))), .ref 1050, .int (iN ((xs (zi + 1).toNat).toInt)), .ref 0], (78, 76), zg) : Option am_C)) rfl (by simp only [Int32.ofInt_add, Int32.ofInt_sub, Int32.ofInt_mul, Int32.ofInt_neg])) ?_
        refine wp_iald  (z := (zi) + (2)) (j := (zi + 2).toNat) (n := zL) (v := iN ((xs (zi + 2).toNat).toInt)) rfl (am_ar_50 q_l q_L) (by omega) (by omega) (by omega) (by rw [q_s]; exact (iN_self _).symm) ?_
        obtain ⟨v, P', p1, cL, cR⟩ := jo_get (zd + 8) (by omega) (n := n) (P := P) (zs := (xs (zi + 1).toNat).toInt) (zi := (xs (zi + 2).toNat).toInt) (by omega) q_P (iN_rg _) (iN_rg _)
        refine wp_call (md1 := am_m_Lp_get) (As := [.ref 0, .int (iN ((xs (zi + 1).toNat).toInt)), .int (iN ((xs (zi + 2).toNat).toInt))]) (rest := []) (kr1 := (78, 76)) rfl (cL zg q_I) ?_
        rintro _ zg1 ⟨rfl, q_I1, q_k1⟩
        have q_s1 : zg1.1 1050 = xs := (q_k1 1050 (by decide)).1.trans q_s
        have q_l1 : zg1.1 1051 0 = iN (zL : Int) := (congrFun (q_k1 1051 (by decide)).1 0).trans q_l
        have q_R1 := zIR_k q_k1 q_R
        refine wp_run (k := 5) (pc1 := 971) (l1 := [(0, .ref 1050), (1, .ref 0), (2, .ref 55), (3, .int (iN (zi)))]) (st1 := [.int (iN ((zi) + (1))), .ref 1050, .ref 55, .long (v)]) (kr1 := (78, 76)) (h1 := zg1) (Eq.trans (b := (some (971, [(0, .ref 1050), (1, .ref 0), (2, .ref 55), (3, .int (iN (zi)))], [.int ((iN (zi)) + (iN (1))), .ref 1050, .ref 55, .long (v)], (78, 76), zg1) : Option am_C)) rfl (by simp only [Int32.ofInt_add, Int32.ofInt_sub, Int32.ofInt_mul, Int32.ofInt_neg])) ?_
        refine wp_iald  (z := (zi) + (1)) (j := (zi + 1).toNat) (n := zL) (v := iN ((xs (zi + 1).toNat).toInt)) rfl (am_ar_50 q_l1 q_L) (by omega) (by omega) (by omega) (by rw [q_s1]; exact (iN_self _).symm) ?_
        refine wp_run (k := 4) (pc1 := 976) (l1 := [(0, .ref 1050), (1, .ref 0), (2, .ref 55), (3, .int (iN (zi)))]) (st1 := [.int (iN ((zi) + (2))), .ref 1050, .int (iN ((xs (zi + 1).toNat).toInt)), .ref 55, .long (v)]) (kr1 := (78, 76)) (h1 := zg1) (Eq.trans (b := (some (976, [(0, .ref 1050), (1, .ref 0), (2, .ref 55), (3, .int (iN (zi)))], [.int ((iN (zi)) + (iN (2))), .ref 1050, .int (iN ((xs (zi + 1).toNat).toInt)), .ref 55, .long (v)], (78, 76), zg1) : Option am_C)) rfl (by simp only [Int32.ofInt_add, Int32.ofInt_sub, Int32.ofInt_mul, Int32.ofInt_neg])) ?_
        refine wp_iald  (z := (zi) + (2)) (j := (zi + 2).toNat) (n := zL) (v := iN ((xs (zi + 2).toNat).toInt)) rfl (am_ar_50 q_l1 q_L) (by omega) (by omega) (by omega) (by rw [q_s1]; exact (iN_self _).symm) ?_
        refine wp_call (md1 := am_m_Model_get) (As := [.ref 55, .int (iN ((xs (zi + 1).toNat).toInt)), .int (iN ((xs (zi + 2).toNat).toInt))]) (rest := [.long (v)]) (kr1 := (78, 76)) rfl (cR zg1 q_R1) ?_
        rintro _ zg2 ⟨rfl, q_R2, q_k2⟩
        have q_s2 : zg2.1 1050 = xs := (q_k2.1 1050 (by decide)).trans q_s1
        have q_l2 : zg2.1 1051 0 = iN (zL : Int) := (congrFun (q_k2.1 1051 (by decide)) 0).trans q_l1
        have q_I2 := zIL_k q_k2 q_I1
        refine wp_run (k := 1) (pc1 := 981) (l1 := [(0, .ref 1050), (1, .ref 0), (2, .ref 55), (3, .int (iN (zi)))]) (st1 := [.int (lg_cmp (v) (v))]) (kr1 := (78, 76)) (h1 := zg2) rfl ?_
        refine wp_bra rfl (fun b_981 => ?_) (fun b_981 => ?_)
        · refine wp_run (k := 2) (pc1 := 18) (l1 := [(0, .ref 1050), (1, .ref 0), (2, .ref 55), (3, .int (iN ((zi) + 5)))]) (st1 := []) (kr1 := (78, 76)) (h1 := zg2) (Eq.trans (b := (some (18, [(0, .ref 1050), (1, .ref 0), (2, .ref 55), (3, .int ((iN (zi)) + iN (5)))], [], (78, 76), zg2) : Option am_C)) rfl (by simp only [Int32.ofInt_add, Int32.ofInt_sub, Int32.ofInt_mul, Int32.ofInt_neg])) ?_
          exact z_ih zg2 P' (n + 1) (zi + 5) p1 q_I2 q_R2 q_s2 q_l2 (by omega) (by omega)
        · exact absurd (b_981.symm.trans (decide_eq_true (lg_self v))) (by decide)
      · refine wp_swc (b := 27) (tg := 986) y_sw rfl (by decide) ?_
        refine wp_run (k := 5) (pc1 := 991) (l1 := [(0, .ref 1050), (1, .ref 0), (2, .ref 55), (3, .int (iN (zi)))]) (st1 := [.int (iN ((zi) + (1))), .ref 1050, .ref 0]) (kr1 := (78, 76)) (h1 := zg) (Eq.trans (b := (some (991, [(0, .ref 1050), (1, .ref 0), (2, .ref 55), (3, .int (iN (zi)))], [.int ((iN (zi)) + (iN (1))), .ref 1050, .ref 0], (78, 76), zg) : Option am_C)) rfl (by simp only [Int32.ofInt_add, Int32.ofInt_sub, Int32.ofInt_mul, Int32.ofInt_neg])) ?_
        refine wp_iald  (z := (zi) + (1)) (j := (zi + 1).toNat) (n := zL) (v := iN ((xs (zi + 1).toNat).toInt)) rfl (am_ar_50 q_l q_L) (by omega) (by omega) (by omega) (by rw [q_s]; exact (iN_self _).symm) ?_
        refine wp_run (k := 4) (pc1 := 996) (l1 := [(0, .ref 1050), (1, .ref 0), (2, .ref 55), (3, .int (iN (zi)))]) (st1 := [.int (iN ((zi) + (2))), .ref 1050, .int (iN ((xs (zi + 1).toNat).toInt)), .ref 0]) (kr1 := (78, 76)) (h1 := zg) (Eq.trans (b := (some (996, [(0, .ref 1050), (1, .ref 0), (2, .ref 55), (3, .int (iN (zi)))], [.int ((iN (zi)) + (iN (2))), .ref 1050, .int (iN ((xs (zi + 1).toNat).toInt)), .ref 0], (78, 76), zg) : Option am_C)) rfl (by simp only [Int32.ofInt_add, Int32.ofInt_sub, Int32.ofInt_mul, Int32.ofInt_neg])) ?_
        refine wp_iald  (z := (zi) + (2)) (j := (zi + 2).toNat) (n := zL) (v := iN ((xs (zi + 2).toNat).toInt)) rfl (am_ar_50 q_l q_L) (by omega) (by omega) (by omega) (by rw [q_s]; exact (iN_self _).symm) ?_
        refine wp_run (k := 4) (pc1 := 1001) (l1 := [(0, .ref 1050), (1, .ref 0), (2, .ref 55), (3, .int (iN (zi)))]) (st1 := [.int (iN ((zi) + (3))), .ref 1050, .int (iN ((xs (zi + 2).toNat).toInt)), .int (iN ((xs (zi + 1).toNat).toInt)), .ref 0]) (kr1 := (78, 76)) (h1 := zg) (Eq.trans (b := (some (1001, [(0, .ref 1050), (1, .ref 0), (2, .ref 55), (3, .int (iN (zi)))], [.int ((iN (zi)) + (iN (3))), .ref 1050, .int (iN ((xs (zi + 2).toNat).toInt)), .int (iN ((xs (zi + 1).toNat).toInt)), .ref 0], (78, 76), zg) : Option am_C)) rfl (by simp only [Int32.ofInt_add, Int32.ofInt_sub, Int32.ofInt_mul, Int32.ofInt_neg])) ?_
        refine wp_iald  (z := (zi) + (3)) (j := (zi + 3).toNat) (n := zL) (v := iN ((xs (zi + 3).toNat).toInt)) rfl (am_ar_50 q_l q_L) (by omega) (by omega) (by omega) (by rw [q_s]; exact (iN_self _).symm) ?_
        obtain ⟨v, P', p1, cL, cR⟩ := jo_from (zd + 8) (by omega) (n := n) (P := P) (zs := (xs (zi + 1).toNat).toInt) (zi := (xs (zi + 2).toNat).toInt) (zp := (xs (zi + 3).toNat).toInt) (by omega) q_P (iN_rg _) (iN_rg _) (iN_rg _)
        refine wp_call (md1 := am_m_Lp_from) (As := [.ref 0, .int (iN ((xs (zi + 1).toNat).toInt)), .int (iN ((xs (zi + 2).toNat).toInt)), .int (iN ((xs (zi + 3).toNat).toInt))]) (rest := []) (kr1 := (78, 76)) rfl (cL zg q_I) ?_
        rintro _ zg1 ⟨rfl, q_I1, q_k1⟩
        have q_s1 : zg1.1 1050 = xs := (q_k1 1050 (by decide)).1.trans q_s
        have q_l1 : zg1.1 1051 0 = iN (zL : Int) := (congrFun (q_k1 1051 (by decide)).1 0).trans q_l
        have q_R1 := zIR_k q_k1 q_R
        refine wp_run (k := 5) (pc1 := 1010) (l1 := [(0, .ref 1050), (1, .ref 0), (2, .ref 55), (3, .int (iN (zi)))]) (st1 := [.int (iN ((zi) + (1))), .ref 1050, .ref 55, .int (v)]) (kr1 := (78, 76)) (h1 := zg1) (Eq.trans (b := (some (1010, [(0, .ref 1050), (1, .ref 0), (2, .ref 55), (3, .int (iN (zi)))], [.int ((iN (zi)) + (iN (1))), .ref 1050, .ref 55, .int (v)], (78, 76), zg1) : Option am_C)) rfl (by simp only [Int32.ofInt_add, Int32.ofInt_sub, Int32.ofInt_mul, Int32.ofInt_neg])) ?_
        refine wp_iald  (z := (zi) + (1)) (j := (zi + 1).toNat) (n := zL) (v := iN ((xs (zi + 1).toNat).toInt)) rfl (am_ar_50 q_l1 q_L) (by omega) (by omega) (by omega) (by rw [q_s1]; exact (iN_self _).symm) ?_
        refine wp_run (k := 4) (pc1 := 1015) (l1 := [(0, .ref 1050), (1, .ref 0), (2, .ref 55), (3, .int (iN (zi)))]) (st1 := [.int (iN ((zi) + (2))), .ref 1050, .int (iN ((xs (zi + 1).toNat).toInt)), .ref 55, .int (v)]) (kr1 := (78, 76)) (h1 := zg1) (Eq.trans (b := (some (1015, [(0, .ref 1050), (1, .ref 0), (2, .ref 55), (3, .int (iN (zi)))], [.int ((iN (zi)) + (iN (2))), .ref 1050, .int (iN ((xs (zi + 1).toNat).toInt)), .ref 55, .int (v)], (78, 76), zg1) : Option am_C)) rfl (by simp only [Int32.ofInt_add, Int32.ofInt_sub, Int32.ofInt_mul, Int32.ofInt_neg])) ?_
        refine wp_iald  (z := (zi) + (2)) (j := (zi + 2).toNat) (n := zL) (v := iN ((xs (zi + 2).toNat).toInt)) rfl (am_ar_50 q_l1 q_L) (by omega) (by omega) (by omega) (by rw [q_s1]; exact (iN_self _).symm) ?_
        refine wp_run (k := 4) (pc1 := 1020) (l1 := [(0, .ref 1050), (1, .ref 0), (2, .ref 55), (3, .int (iN (zi)))]) (st1 := [.int (iN ((zi) + (3))), .ref 1050, .int (iN ((xs (zi + 2).toNat).toInt)), .int (iN ((xs (zi + 1).toNat).toInt)), .ref 55, .int (v)]) (kr1 := (78, 76)) (h1 := zg1) (Eq.trans (b := (some (1020, [(0, .ref 1050), (1, .ref 0), (2, .ref 55), (3, .int (iN (zi)))], [.int ((iN (zi)) + (iN (3))), .ref 1050, .int (iN ((xs (zi + 2).toNat).toInt)), .int (iN ((xs (zi + 1).toNat).toInt)), .ref 55, .int (v)], (78, 76), zg1) : Option am_C)) rfl (by simp only [Int32.ofInt_add, Int32.ofInt_sub, Int32.ofInt_mul, Int32.ofInt_neg])) ?_
        refine wp_iald  (z := (zi) + (3)) (j := (zi + 3).toNat) (n := zL) (v := iN ((xs (zi + 3).toNat).toInt)) rfl (am_ar_50 q_l1 q_L) (by omega) (by omega) (by omega) (by rw [q_s1]; exact (iN_self _).symm) ?_
        refine wp_call (md1 := am_m_Model_from) (As := [.ref 55, .int (iN ((xs (zi + 1).toNat).toInt)), .int (iN ((xs (zi + 2).toNat).toInt)), .int (iN ((xs (zi + 3).toNat).toInt))]) (rest := [.int (v)]) (kr1 := (78, 76)) rfl (cR zg1 q_R1) ?_
        rintro _ zg2 ⟨rfl, q_R2, q_k2⟩
        have q_s2 : zg2.1 1050 = xs := (q_k2.1 1050 (by decide)).trans q_s1
        have q_l2 : zg2.1 1051 0 = iN (zL : Int) := (congrFun (q_k2.1 1051 (by decide)) 0).trans q_l1
        have q_I2 := zIL_k q_k2 q_I1
        refine wp_bra rfl (fun b_1024 => ?_) (fun b_1024 => ?_)
        · refine wp_run (k := 2) (pc1 := 18) (l1 := [(0, .ref 1050), (1, .ref 0), (2, .ref 55), (3, .int (iN ((zi) + 5)))]) (st1 := []) (kr1 := (78, 76)) (h1 := zg2) (Eq.trans (b := (some (18, [(0, .ref 1050), (1, .ref 0), (2, .ref 55), (3, .int ((iN (zi)) + iN (5)))], [], (78, 76), zg2) : Option am_C)) rfl (by simp only [Int32.ofInt_add, Int32.ofInt_sub, Int32.ofInt_mul, Int32.ofInt_neg])) ?_
          exact z_ih zg2 P' (n + 1) (zi + 5) p1 q_I2 q_R2 q_s2 q_l2 (by omega) (by omega)
        · exact absurd (b_1024.symm.trans (decide_eq_true rfl)) (by decide)
      · refine wp_swc (b := 28) (tg := 1029) y_sw rfl (by decide) ?_
        refine wp_run (k := 5) (pc1 := 1034) (l1 := [(0, .ref 1050), (1, .ref 0), (2, .ref 55), (3, .int (iN (zi)))]) (st1 := [.int (iN ((zi) + (1))), .ref 1050, .ref 0]) (kr1 := (78, 76)) (h1 := zg) (Eq.trans (b := (some (1034, [(0, .ref 1050), (1, .ref 0), (2, .ref 55), (3, .int (iN (zi)))], [.int ((iN (zi)) + (iN (1))), .ref 1050, .ref 0], (78, 76), zg) : Option am_C)) rfl (by simp only [Int32.ofInt_add, Int32.ofInt_sub, Int32.ofInt_mul, Int32.ofInt_neg])) ?_
        refine wp_iald  (z := (zi) + (1)) (j := (zi + 1).toNat) (n := zL) (v := iN ((xs (zi + 1).toNat).toInt)) rfl (am_ar_50 q_l q_L) (by omega) (by omega) (by omega) (by rw [q_s]; exact (iN_self _).symm) ?_
        refine wp_run (k := 4) (pc1 := 1039) (l1 := [(0, .ref 1050), (1, .ref 0), (2, .ref 55), (3, .int (iN (zi)))]) (st1 := [.int (iN ((zi) + (2))), .ref 1050, .int (iN ((xs (zi + 1).toNat).toInt)), .ref 0]) (kr1 := (78, 76)) (h1 := zg) (Eq.trans (b := (some (1039, [(0, .ref 1050), (1, .ref 0), (2, .ref 55), (3, .int (iN (zi)))], [.int ((iN (zi)) + (iN (2))), .ref 1050, .int (iN ((xs (zi + 1).toNat).toInt)), .ref 0], (78, 76), zg) : Option am_C)) rfl (by simp only [Int32.ofInt_add, Int32.ofInt_sub, Int32.ofInt_mul, Int32.ofInt_neg])) ?_
        refine wp_iald  (z := (zi) + (2)) (j := (zi + 2).toNat) (n := zL) (v := iN ((xs (zi + 2).toNat).toInt)) rfl (am_ar_50 q_l q_L) (by omega) (by omega) (by omega) (by rw [q_s]; exact (iN_self _).symm) ?_
        refine wp_run (k := 4) (pc1 := 1044) (l1 := [(0, .ref 1050), (1, .ref 0), (2, .ref 55), (3, .int (iN (zi)))]) (st1 := [.int (iN ((zi) + (3))), .ref 1050, .int (iN ((xs (zi + 2).toNat).toInt)), .int (iN ((xs (zi + 1).toNat).toInt)), .ref 0]) (kr1 := (78, 76)) (h1 := zg) (Eq.trans (b := (some (1044, [(0, .ref 1050), (1, .ref 0), (2, .ref 55), (3, .int (iN (zi)))], [.int ((iN (zi)) + (iN (3))), .ref 1050, .int (iN ((xs (zi + 2).toNat).toInt)), .int (iN ((xs (zi + 1).toNat).toInt)), .ref 0], (78, 76), zg) : Option am_C)) rfl (by simp only [Int32.ofInt_add, Int32.ofInt_sub, Int32.ofInt_mul, Int32.ofInt_neg])) ?_
        refine wp_iald  (z := (zi) + (3)) (j := (zi + 3).toNat) (n := zL) (v := iN ((xs (zi + 3).toNat).toInt)) rfl (am_ar_50 q_l q_L) (by omega) (by omega) (by omega) (by rw [q_s]; exact (iN_self _).symm) ?_
        obtain ⟨v, P', p1, cL, cR⟩ := jo_into (zd + 8) (by omega) (n := n) (P := P) (zs := (xs (zi + 1).toNat).toInt) (zi := (xs (zi + 2).toNat).toInt) (zw := (xs (zi + 3).toNat).toInt) (by omega) q_P (iN_rg _) (iN_rg _) (iN_rg _)
        refine wp_call (md1 := am_m_Lp_into) (As := [.ref 0, .int (iN ((xs (zi + 1).toNat).toInt)), .int (iN ((xs (zi + 2).toNat).toInt)), .int (iN ((xs (zi + 3).toNat).toInt))]) (rest := []) (kr1 := (78, 76)) rfl (cL zg q_I) ?_
        rintro _ zg1 ⟨rfl, q_I1, q_k1⟩
        have q_s1 : zg1.1 1050 = xs := (q_k1 1050 (by decide)).1.trans q_s
        have q_l1 : zg1.1 1051 0 = iN (zL : Int) := (congrFun (q_k1 1051 (by decide)).1 0).trans q_l
        have q_R1 := zIR_k q_k1 q_R
        refine wp_run (k := 5) (pc1 := 1053) (l1 := [(0, .ref 1050), (1, .ref 0), (2, .ref 55), (3, .int (iN (zi)))]) (st1 := [.int (iN ((zi) + (1))), .ref 1050, .ref 55, .int (v)]) (kr1 := (78, 76)) (h1 := zg1) (Eq.trans (b := (some (1053, [(0, .ref 1050), (1, .ref 0), (2, .ref 55), (3, .int (iN (zi)))], [.int ((iN (zi)) + (iN (1))), .ref 1050, .ref 55, .int (v)], (78, 76), zg1) : Option am_C)) rfl (by simp only [Int32.ofInt_add, Int32.ofInt_sub, Int32.ofInt_mul, Int32.ofInt_neg])) ?_
        refine wp_iald  (z := (zi) + (1)) (j := (zi + 1).toNat) (n := zL) (v := iN ((xs (zi + 1).toNat).toInt)) rfl (am_ar_50 q_l1 q_L) (by omega) (by omega) (by omega) (by rw [q_s1]; exact (iN_self _).symm) ?_
        refine wp_run (k := 4) (pc1 := 1058) (l1 := [(0, .ref 1050), (1, .ref 0), (2, .ref 55), (3, .int (iN (zi)))]) (st1 := [.int (iN ((zi) + (2))), .ref 1050, .int (iN ((xs (zi + 1).toNat).toInt)), .ref 55, .int (v)]) (kr1 := (78, 76)) (h1 := zg1) (Eq.trans (b := (some (1058, [(0, .ref 1050), (1, .ref 0), (2, .ref 55), (3, .int (iN (zi)))], [.int ((iN (zi)) + (iN (2))), .ref 1050, .int (iN ((xs (zi + 1).toNat).toInt)), .ref 55, .int (v)], (78, 76), zg1) : Option am_C)) rfl (by simp only [Int32.ofInt_add, Int32.ofInt_sub, Int32.ofInt_mul, Int32.ofInt_neg])) ?_
        refine wp_iald  (z := (zi) + (2)) (j := (zi + 2).toNat) (n := zL) (v := iN ((xs (zi + 2).toNat).toInt)) rfl (am_ar_50 q_l1 q_L) (by omega) (by omega) (by omega) (by rw [q_s1]; exact (iN_self _).symm) ?_
        refine wp_run (k := 4) (pc1 := 1063) (l1 := [(0, .ref 1050), (1, .ref 0), (2, .ref 55), (3, .int (iN (zi)))]) (st1 := [.int (iN ((zi) + (3))), .ref 1050, .int (iN ((xs (zi + 2).toNat).toInt)), .int (iN ((xs (zi + 1).toNat).toInt)), .ref 55, .int (v)]) (kr1 := (78, 76)) (h1 := zg1) (Eq.trans (b := (some (1063, [(0, .ref 1050), (1, .ref 0), (2, .ref 55), (3, .int (iN (zi)))], [.int ((iN (zi)) + (iN (3))), .ref 1050, .int (iN ((xs (zi + 2).toNat).toInt)), .int (iN ((xs (zi + 1).toNat).toInt)), .ref 55, .int (v)], (78, 76), zg1) : Option am_C)) rfl (by simp only [Int32.ofInt_add, Int32.ofInt_sub, Int32.ofInt_mul, Int32.ofInt_neg])) ?_
        refine wp_iald  (z := (zi) + (3)) (j := (zi + 3).toNat) (n := zL) (v := iN ((xs (zi + 3).toNat).toInt)) rfl (am_ar_50 q_l1 q_L) (by omega) (by omega) (by omega) (by rw [q_s1]; exact (iN_self _).symm) ?_
        refine wp_call (md1 := am_m_Model_into) (As := [.ref 55, .int (iN ((xs (zi + 1).toNat).toInt)), .int (iN ((xs (zi + 2).toNat).toInt)), .int (iN ((xs (zi + 3).toNat).toInt))]) (rest := [.int (v)]) (kr1 := (78, 76)) rfl (cR zg1 q_R1) ?_
        rintro _ zg2 ⟨rfl, q_R2, q_k2⟩
        have q_s2 : zg2.1 1050 = xs := (q_k2.1 1050 (by decide)).trans q_s1
        have q_l2 : zg2.1 1051 0 = iN (zL : Int) := (congrFun (q_k2.1 1051 (by decide)) 0).trans q_l1
        have q_I2 := zIL_k q_k2 q_I1
        refine wp_bra rfl (fun b_1067 => ?_) (fun b_1067 => ?_)
        · refine wp_run (k := 2) (pc1 := 18) (l1 := [(0, .ref 1050), (1, .ref 0), (2, .ref 55), (3, .int (iN ((zi) + 5)))]) (st1 := []) (kr1 := (78, 76)) (h1 := zg2) (Eq.trans (b := (some (18, [(0, .ref 1050), (1, .ref 0), (2, .ref 55), (3, .int ((iN (zi)) + iN (5)))], [], (78, 76), zg2) : Option am_C)) rfl (by simp only [Int32.ofInt_add, Int32.ofInt_sub, Int32.ofInt_mul, Int32.ofInt_neg])) ?_
          exact z_ih zg2 P' (n + 1) (zi + 5) p1 q_I2 q_R2 q_s2 q_l2 (by omega) (by omega)
        · exact absurd (b_1067.symm.trans (decide_eq_true rfl)) (by decide)
      · refine wp_swc (b := 29) (tg := 1072) y_sw rfl (by decide) ?_
        refine wp_run (k := 1) (pc1 := 1073) (l1 := [(0, .ref 1050), (1, .ref 0), (2, .ref 55), (3, .int (iN (zi)))]) (st1 := [.ref 0]) (kr1 := (78, 76)) (h1 := zg) rfl ?_
        obtain ⟨v, P', p1, cL, cR⟩ := jo_undo (zd + 8) (by omega) (n := n) (P := P)  (by omega) q_P 
        refine wp_call (md1 := am_m_Lp_undo) (As := [.ref 0]) (rest := []) (kr1 := (78, 76)) rfl (cL zg q_I) ?_
        rintro _ zg1 ⟨rfl, q_I1, q_k1⟩
        have q_s1 : zg1.1 1050 = xs := (q_k1 1050 (by decide)).1.trans q_s
        have q_l1 : zg1.1 1051 0 = iN (zL : Int) := (congrFun (q_k1 1051 (by decide)).1 0).trans q_l
        have q_R1 := zIR_k q_k1 q_R
        refine wp_run (k := 1) (pc1 := 1077) (l1 := [(0, .ref 1050), (1, .ref 0), (2, .ref 55), (3, .int (iN (zi)))]) (st1 := [.ref 55, .int (v)]) (kr1 := (78, 76)) (h1 := zg1) rfl ?_
        refine wp_call (md1 := am_m_Model_undo) (As := [.ref 55]) (rest := [.int (v)]) (kr1 := (78, 76)) rfl (cR zg1 q_R1) ?_
        rintro _ zg2 ⟨rfl, q_R2, q_k2⟩
        have q_s2 : zg2.1 1050 = xs := (q_k2.1 1050 (by decide)).trans q_s1
        have q_l2 : zg2.1 1051 0 = iN (zL : Int) := (congrFun (q_k2.1 1051 (by decide)) 0).trans q_l1
        have q_I2 := zIL_k q_k2 q_I1
        refine wp_bra rfl (fun b_1080 => ?_) (fun b_1080 => ?_)
        · refine wp_run (k := 2) (pc1 := 18) (l1 := [(0, .ref 1050), (1, .ref 0), (2, .ref 55), (3, .int (iN ((zi) + 5)))]) (st1 := []) (kr1 := (78, 76)) (h1 := zg2) (Eq.trans (b := (some (18, [(0, .ref 1050), (1, .ref 0), (2, .ref 55), (3, .int ((iN (zi)) + iN (5)))], [], (78, 76), zg2) : Option am_C)) rfl (by simp only [Int32.ofInt_add, Int32.ofInt_sub, Int32.ofInt_mul, Int32.ofInt_neg])) ?_
          exact z_ih zg2 P' (n + 1) (zi + 5) p1 q_I2 q_R2 q_s2 q_l2 (by omega) (by omega)
        · exact absurd (b_1080.symm.trans (decide_eq_true rfl)) (by decide)
      · refine wp_swc (b := 30) (tg := 1085) y_sw rfl (by decide) ?_
        refine wp_run (k := 1) (pc1 := 1086) (l1 := [(0, .ref 1050), (1, .ref 0), (2, .ref 55), (3, .int (iN (zi)))]) (st1 := [.ref 0]) (kr1 := (78, 76)) (h1 := zg) rfl ?_
        obtain ⟨v, P', p1, cL, cR⟩ := jo_redo (zd + 8) (by omega) (n := n) (P := P)  (by omega) q_P 
        refine wp_call (md1 := am_m_Lp_redo) (As := [.ref 0]) (rest := []) (kr1 := (78, 76)) rfl (cL zg q_I) ?_
        rintro _ zg1 ⟨rfl, q_I1, q_k1⟩
        have q_s1 : zg1.1 1050 = xs := (q_k1 1050 (by decide)).1.trans q_s
        have q_l1 : zg1.1 1051 0 = iN (zL : Int) := (congrFun (q_k1 1051 (by decide)).1 0).trans q_l
        have q_R1 := zIR_k q_k1 q_R
        refine wp_run (k := 1) (pc1 := 1090) (l1 := [(0, .ref 1050), (1, .ref 0), (2, .ref 55), (3, .int (iN (zi)))]) (st1 := [.ref 55, .int (v)]) (kr1 := (78, 76)) (h1 := zg1) rfl ?_
        refine wp_call (md1 := am_m_Model_redo) (As := [.ref 55]) (rest := [.int (v)]) (kr1 := (78, 76)) rfl (cR zg1 q_R1) ?_
        rintro _ zg2 ⟨rfl, q_R2, q_k2⟩
        have q_s2 : zg2.1 1050 = xs := (q_k2.1 1050 (by decide)).trans q_s1
        have q_l2 : zg2.1 1051 0 = iN (zL : Int) := (congrFun (q_k2.1 1051 (by decide)) 0).trans q_l1
        have q_I2 := zIL_k q_k2 q_I1
        refine wp_bra rfl (fun b_1093 => ?_) (fun b_1093 => ?_)
        · refine wp_run (k := 2) (pc1 := 18) (l1 := [(0, .ref 1050), (1, .ref 0), (2, .ref 55), (3, .int (iN ((zi) + 5)))]) (st1 := []) (kr1 := (78, 76)) (h1 := zg2) (Eq.trans (b := (some (18, [(0, .ref 1050), (1, .ref 0), (2, .ref 55), (3, .int ((iN (zi)) + iN (5)))], [], (78, 76), zg2) : Option am_C)) rfl (by simp only [Int32.ofInt_add, Int32.ofInt_sub, Int32.ofInt_mul, Int32.ofInt_neg])) ?_
          exact z_ih zg2 P' (n + 1) (zi + 5) p1 q_I2 q_R2 q_s2 q_l2 (by omega) (by omega)
        · exact absurd (b_1093.symm.trans (decide_eq_true rfl)) (by decide)
      · refine wp_swc (b := 31) (tg := 1098) y_sw rfl (by decide) ?_
        refine wp_run (k := 1) (pc1 := 1099) (l1 := [(0, .ref 1050), (1, .ref 0), (2, .ref 55), (3, .int (iN (zi)))]) (st1 := [.ref 0]) (kr1 := (78, 76)) (h1 := zg) rfl ?_
        obtain ⟨v, P', p1, cL, cR⟩ := jo_image (zd + 8) (by omega) (n := n) (P := P)  (by omega) q_P 
        refine wp_call (md1 := am_m_Lp_image) (As := [.ref 0]) (rest := []) (kr1 := (78, 76)) rfl (cL zg q_I) ?_
        rintro _ zg1 ⟨rfl, q_I1, q_k1⟩
        have q_s1 : zg1.1 1050 = xs := (q_k1 1050 (by decide)).1.trans q_s
        have q_l1 : zg1.1 1051 0 = iN (zL : Int) := (congrFun (q_k1 1051 (by decide)).1 0).trans q_l
        have q_R1 := zIR_k q_k1 q_R
        refine wp_run (k := 1) (pc1 := 1103) (l1 := [(0, .ref 1050), (1, .ref 0), (2, .ref 55), (3, .int (iN (zi)))]) (st1 := [.ref 55, .int (v)]) (kr1 := (78, 76)) (h1 := zg1) rfl ?_
        refine wp_call (md1 := am_m_Model_image) (As := [.ref 55]) (rest := [.int (v)]) (kr1 := (78, 76)) rfl (cR zg1 q_R1) ?_
        rintro _ zg2 ⟨rfl, q_R2, q_k2⟩
        have q_s2 : zg2.1 1050 = xs := (q_k2.1 1050 (by decide)).trans q_s1
        have q_l2 : zg2.1 1051 0 = iN (zL : Int) := (congrFun (q_k2.1 1051 (by decide)) 0).trans q_l1
        have q_I2 := zIL_k q_k2 q_I1
        refine wp_bra rfl (fun b_1106 => ?_) (fun b_1106 => ?_)
        · refine wp_run (k := 2) (pc1 := 18) (l1 := [(0, .ref 1050), (1, .ref 0), (2, .ref 55), (3, .int (iN ((zi) + 5)))]) (st1 := []) (kr1 := (78, 76)) (h1 := zg2) (Eq.trans (b := (some (18, [(0, .ref 1050), (1, .ref 0), (2, .ref 55), (3, .int ((iN (zi)) + iN (5)))], [], (78, 76), zg2) : Option am_C)) rfl (by simp only [Int32.ofInt_add, Int32.ofInt_sub, Int32.ofInt_mul, Int32.ofInt_neg])) ?_
          exact z_ih zg2 P' (n + 1) (zi + 5) p1 q_I2 q_R2 q_s2 q_l2 (by omega) (by omega)
        · exact absurd (b_1106.symm.trans (decide_eq_true rfl)) (by decide)
      · refine wp_swc (b := 32) (tg := 1111) y_sw rfl (by decide) ?_
        refine wp_run (k := 1) (pc1 := 1112) (l1 := [(0, .ref 1050), (1, .ref 0), (2, .ref 55), (3, .int (iN (zi)))]) (st1 := [.ref 0]) (kr1 := (78, 76)) (h1 := zg) rfl ?_
        obtain ⟨v, P', p1, cL, cR⟩ := jo_back (zd + 8) (by omega) (n := n) (P := P)  (by omega) q_P 
        refine wp_call (md1 := am_m_Lp_back) (As := [.ref 0]) (rest := []) (kr1 := (78, 76)) rfl (cL zg q_I) ?_
        rintro _ zg1 ⟨rfl, q_I1, q_k1⟩
        have q_s1 : zg1.1 1050 = xs := (q_k1 1050 (by decide)).1.trans q_s
        have q_l1 : zg1.1 1051 0 = iN (zL : Int) := (congrFun (q_k1 1051 (by decide)).1 0).trans q_l
        have q_R1 := zIR_k q_k1 q_R
        refine wp_run (k := 1) (pc1 := 1116) (l1 := [(0, .ref 1050), (1, .ref 0), (2, .ref 55), (3, .int (iN (zi)))]) (st1 := [.ref 55, .int (v)]) (kr1 := (78, 76)) (h1 := zg1) rfl ?_
        refine wp_call (md1 := am_m_Model_back) (As := [.ref 55]) (rest := [.int (v)]) (kr1 := (78, 76)) rfl (cR zg1 q_R1) ?_
        rintro _ zg2 ⟨rfl, q_R2, q_k2⟩
        have q_s2 : zg2.1 1050 = xs := (q_k2.1 1050 (by decide)).trans q_s1
        have q_l2 : zg2.1 1051 0 = iN (zL : Int) := (congrFun (q_k2.1 1051 (by decide)) 0).trans q_l1
        have q_I2 := zIL_k q_k2 q_I1
        refine wp_bra rfl (fun b_1119 => ?_) (fun b_1119 => ?_)
        · refine wp_run (k := 2) (pc1 := 18) (l1 := [(0, .ref 1050), (1, .ref 0), (2, .ref 55), (3, .int (iN ((zi) + 5)))]) (st1 := []) (kr1 := (78, 76)) (h1 := zg2) (Eq.trans (b := (some (18, [(0, .ref 1050), (1, .ref 0), (2, .ref 55), (3, .int ((iN (zi)) + iN (5)))], [], (78, 76), zg2) : Option am_C)) rfl (by simp only [Int32.ofInt_add, Int32.ofInt_sub, Int32.ofInt_mul, Int32.ofInt_neg])) ?_
          exact z_ih zg2 P' (n + 1) (zi + 5) p1 q_I2 q_R2 q_s2 q_l2 (by omega) (by omega)
        · exact absurd (b_1119.symm.trans (decide_eq_true rfl)) (by decide)
      · refine wp_swc (b := 33) (tg := 1124) y_sw rfl (by decide) ?_
        refine wp_run (k := 5) (pc1 := 1129) (l1 := [(0, .ref 1050), (1, .ref 0), (2, .ref 55), (3, .int (iN (zi)))]) (st1 := [.int (iN ((zi) + (1))), .ref 1050, .ref 0]) (kr1 := (78, 76)) (h1 := zg) (Eq.trans (b := (some (1129, [(0, .ref 1050), (1, .ref 0), (2, .ref 55), (3, .int (iN (zi)))], [.int ((iN (zi)) + (iN (1))), .ref 1050, .ref 0], (78, 76), zg) : Option am_C)) rfl (by simp only [Int32.ofInt_add, Int32.ofInt_sub, Int32.ofInt_mul, Int32.ofInt_neg])) ?_
        refine wp_iald  (z := (zi) + (1)) (j := (zi + 1).toNat) (n := zL) (v := iN ((xs (zi + 1).toNat).toInt)) rfl (am_ar_50 q_l q_L) (by omega) (by omega) (by omega) (by rw [q_s]; exact (iN_self _).symm) ?_
        obtain ⟨v, P', p1, cL, cR⟩ := jo_count (zd + 8) (by omega) (n := n) (P := P) (zw := (xs (zi + 1).toNat).toInt) (by omega) q_P (iN_rg _)
        refine wp_call (md1 := am_m_Lp_count) (As := [.ref 0, .int (iN ((xs (zi + 1).toNat).toInt))]) (rest := []) (kr1 := (78, 76)) rfl (cL zg q_I) ?_
        rintro _ zg1 ⟨rfl, q_I1, q_k1⟩
        have q_s1 : zg1.1 1050 = xs := (q_k1 1050 (by decide)).1.trans q_s
        have q_l1 : zg1.1 1051 0 = iN (zL : Int) := (congrFun (q_k1 1051 (by decide)).1 0).trans q_l
        have q_R1 := zIR_k q_k1 q_R
        refine wp_run (k := 5) (pc1 := 1138) (l1 := [(0, .ref 1050), (1, .ref 0), (2, .ref 55), (3, .int (iN (zi)))]) (st1 := [.int (iN ((zi) + (1))), .ref 1050, .ref 55, .int (v)]) (kr1 := (78, 76)) (h1 := zg1) (Eq.trans (b := (some (1138, [(0, .ref 1050), (1, .ref 0), (2, .ref 55), (3, .int (iN (zi)))], [.int ((iN (zi)) + (iN (1))), .ref 1050, .ref 55, .int (v)], (78, 76), zg1) : Option am_C)) rfl (by simp only [Int32.ofInt_add, Int32.ofInt_sub, Int32.ofInt_mul, Int32.ofInt_neg])) ?_
        refine wp_iald  (z := (zi) + (1)) (j := (zi + 1).toNat) (n := zL) (v := iN ((xs (zi + 1).toNat).toInt)) rfl (am_ar_50 q_l1 q_L) (by omega) (by omega) (by omega) (by rw [q_s1]; exact (iN_self _).symm) ?_
        refine wp_call (md1 := am_m_Model_count) (As := [.ref 55, .int (iN ((xs (zi + 1).toNat).toInt))]) (rest := [.int (v)]) (kr1 := (78, 76)) rfl (cR zg1 q_R1) ?_
        rintro _ zg2 ⟨rfl, q_R2, q_k2⟩
        have q_s2 : zg2.1 1050 = xs := (q_k2.1 1050 (by decide)).trans q_s1
        have q_l2 : zg2.1 1051 0 = iN (zL : Int) := (congrFun (q_k2.1 1051 (by decide)) 0).trans q_l1
        have q_I2 := zIL_k q_k2 q_I1
        refine wp_bra rfl (fun b_1142 => ?_) (fun b_1142 => ?_)
        · refine wp_run (k := 2) (pc1 := 18) (l1 := [(0, .ref 1050), (1, .ref 0), (2, .ref 55), (3, .int (iN ((zi) + 5)))]) (st1 := []) (kr1 := (78, 76)) (h1 := zg2) (Eq.trans (b := (some (18, [(0, .ref 1050), (1, .ref 0), (2, .ref 55), (3, .int ((iN (zi)) + iN (5)))], [], (78, 76), zg2) : Option am_C)) rfl (by simp only [Int32.ofInt_add, Int32.ofInt_sub, Int32.ofInt_mul, Int32.ofInt_neg])) ?_
          exact z_ih zg2 P' (n + 1) (zi + 5) p1 q_I2 q_R2 q_s2 q_l2 (by omega) (by omega)
        · exact absurd (b_1142.symm.trans (decide_eq_true rfl)) (by decide)
      · refine wp_swd (lo := 0) (hi := 33) (tg := 1147) rfl (by omega) y_sw ?_
        refine wp_run (k := 2) (pc1 := 18) (l1 := [(0, .ref 1050), (1, .ref 0), (2, .ref 55), (3, .int (iN ((zi) + 5)))]) (st1 := []) (kr1 := (78, 76)) (h1 := zg) (Eq.trans (b := (some (18, [(0, .ref 1050), (1, .ref 0), (2, .ref 55), (3, .int ((iN (zi)) + iN (5)))], [], (78, 76), zg) : Option am_C)) rfl (by simp only [Int32.ofInt_add, Int32.ofInt_sub, Int32.ofInt_mul, Int32.ofInt_neg])) ?_
        exact z_ih zg P (n + 1) (zi + 5) q_P (zIL_0 q_I rfl).1 q_R q_s q_l (by omega) (by omega)
