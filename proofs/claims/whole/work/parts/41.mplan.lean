/-! THE REFERENCE's thePlan -/
theorem zMm_g {fo fc fo' fc' : Nat → Int32} {N : Int} {G : Int → Int → Int} {S T : Int} (q : zMm fo fc N G S T) (q1 : fo' 0 = fo 0) (q2 : fc' = fc) : zMm fo' fc' N G S T := by
  subst q2
  exact ⟨q1.trans q.1, q.2⟩
/-- the reference's lots of the plan lie there -/
def zTookM (zg : am_H) (N : Int) (G : Int → Int → Int) (T : Int) : Prop := ∃ K : Nat, zIsN G T N K ∧ zg.1 55 20 = iN (K : Int) ∧ (∀ j : Nat, j < K → zg.1 63 j = iN (zLa G T N j) ∧ zg.1 64 j = iN (zLb G T N j) ∧ zg.1 65 j = iN (zMk G T N j)) ∧ zHd (zg.1 66) (zMd G T N K) 16
set_option maxRecDepth 20000 in
set_option maxHeartbeats 4000000 in
theorem jl_mplots (zd : Nat) (q_d : 2 ≤ zd) {zh : am_H} {N : Int} {G : Int → Int → Int} {S T : Int} {zv : Int} (q_nm : zMm (zh.1 55) (zh.1 56) N G S T) (q_g : zGk N G S T) (q_row : zMrow zh G T N 0) {zQ : Option Value → am_H → Prop} (zk : ∀ (zg : am_H) (zj : Nat), am_fr [55, 63, 64, 65, 66] zh zg → (∀ zs : Nat, zs ≠ 20 → zg.1 55 zs = zh.1 55 zs) → zIsN G T N zj → zg.1 55 20 = iN (zj : Int) → (∀ j : Nat, j < zj → zg.1 63 j = iN (zLa G T N j) ∧ zg.1 64 j = iN (zLb G T N j) ∧ zg.1 65 j = iN (zMk G T N j)) → zHd (zg.1 66) (zMd G T N zj) 16 → am_wp zd am_m_Model_thePlan 139 [(0, .ref 55), (1, .int (iN (zv))), (2, .int (iN (zLa G T N zj)))] [] (78, 76) zg (78, 76) zQ) : ∀ (z_n : Nat) (zg : am_H) (zj : Nat) (q_f : am_fr [55, 63, 64, 65, 66] zh zg) (q_sl : ∀ zs : Nat, zs ≠ 20 → zg.1 55 zs = zh.1 55 zs) (q_lq : ∀ j : Nat, j < zj → zLq G T N j) (q_la : zLa G T N zj ≤ N) (q_cn : zg.1 55 20 = iN (zj : Int)) (q_rw : ∀ j : Nat, j < zj → zg.1 63 j = iN (zLa G T N j) ∧ zg.1 64 j = iN (zLb G T N j) ∧ zg.1 65 j = iN (zMk G T N j)) (q_md : zHd (zg.1 66) (zMd G T N zj) 16), N - zLa G T N zj < (z_n : Int) → am_wp zd am_m_Model_thePlan 38 [(0, .ref 55), (1, .int (iN (zv))), (2, .int (iN (zLa G T N zj)))] [] (78, 76) zg (78, 76) zQ := by
  obtain ⟨zd, rfl⟩ : ∃ y_e, zd = y_e + 2 := ⟨zd - 2, by omega⟩
  intro z_n
  induction z_n with
  | zero => intro zg zj q_f q_sl q_lq q_la q_cn q_rw q_md q_m; omega
  | succ z_n z_ih =>
    intro zg zj q_f q_sl q_lq q_la q_cn q_rw q_md q_m
    have q_N := q_g.1
    have y_a := zLa_rg q_g zj q_lq
    have q_nm1 : zMm (zg.1 55) (zg.1 56) N G S T := zMm_g q_nm (q_sl 0 (by decide)) (q_f.2 56 (by decide))
    refine wp_run (k := 3) (pc1 := 43) (l1 := [(0, .ref 55), (1, .int (iN (zv))), (2, .int (iN (zLa G T N zj)))]) (st1 := [.int (iN (N)), .int (iN (zLa G T N zj))]) (kr1 := (78, 76)) (h1 := zg) (Eq.trans (b := (some (43, [(0, .ref 55), (1, .int (iN (zv))), (2, .int (iN (zLa G T N zj)))], [.int (zg.1 55 0), .int (iN (zLa G T N zj))], (78, 76), zg) : Option am_C)) rfl (by simp only [(show (zg).1 55 0 = iN N from (congrFun (rfl) 0).trans q_nm1.1), Int32.ofInt_add, Int32.ofInt_sub, Int32.ofInt_mul, Int32.ofInt_neg])) ?_
    refine wp_ge (a := zLa G T N zj) (b := N) rfl (by omega) (by omega) (fun b_43 => ?_) (fun b_43 => ?_)
    · exact zk zg zj q_f q_sl ⟨q_lq, fun y => by have y1 := y.1; have y2 := y.2; omega⟩ q_cn q_rw q_md
    · have y_d := zD_rg q_g (a := zLa G T N zj) (b := N - 1) (by omega) (by omega) (by omega)
      obtain ⟨ze, y_ze, y_e1, y_e2, y_er⟩ : ∃ ze : Int, zg.1 61 (zLa G T N zj).toNat = iN ze ∧ (0 < zD G (zLa G T N zj) (N - 1) → ze = zLb G T N zj ∧ 0 ≤ ze) ∧ (zD G (zLa G T N zj) (N - 1) = 0 → ze = -1) ∧ (-1 ≤ ze ∧ ze < N) := by
        have y1 := q_row (zLa G T N zj) (by omega) (by omega)
        by_cases y2 : 0 < zD G (zLa G T N zj) (N - 1)
        · have y3 := zLb_rg q_g q_lq ⟨by omega, y2⟩
          exact ⟨zLb G T N zj, (congrFun (q_f.2 61 (by decide)) _).trans (y1.2.1 y2).1, fun _ => ⟨rfl, by omega⟩, fun y => by omega, by omega⟩
        · exact ⟨-1, (congrFun (q_f.2 61 (by decide)) _).trans (y1.2.2 (by omega)), fun y => absurd y y2, fun _ => rfl, by omega⟩
      refine wp_run (k := 3) (pc1 := 51) (l1 := [(0, .ref 55), (1, .int (iN (zv))), (2, .int (iN (zLa G T N zj)))]) (st1 := [.int (iN (zLa G T N zj)), .ref 61]) (kr1 := (78, 76)) (h1 := zg) rfl ?_
      refine wp_iald (f := zg.1 61) (z := zLa G T N zj) (j := (zLa G T N zj).toNat) (n := 17) (v := iN ze) rfl rfl (by omega) (by omega) (by decide) (y_ze) ?_
      refine wp_lt0 (a := ze) rfl (by omega) (fun b_52 => ?_) (fun b_52 => ?_)
      · exact zk zg zj q_f q_sl ⟨q_lq, fun y => by have y1 := y.1; have y2 := y.2; omega⟩ q_cn q_rw q_md
      · have y_q : 0 < zD G (zLa G T N zj) (N - 1) := by omega
        have y_b := zLb_rg q_g q_lq ⟨by omega, y_q⟩
        have y_zb : zg.1 61 (zLa G T N zj).toNat = iN (zLb G T N zj) := by rw [y_ze, (y_e1 y_q).1]
        have y_zm : zg.1 62 (zLa G T N zj).toNat = iN (zMk G T N zj) := (congrFun (q_f.2 62 (by decide)) _).trans ((q_row (zLa G T N zj) (by omega) (by omega)).2.1 y_q).2
        refine wp_run (k := 5) (pc1 := 64) (l1 := [(0, .ref 55), (1, .int (iN (zv))), (2, .int (iN (zLa G T N zj)))]) (st1 := [.int (iN (zLa G T N zj)), .int (iN ((zj : Int))), .ref 63]) (kr1 := (78, 76)) (h1 := zg) (Eq.trans (b := (some (64, [(0, .ref 55), (1, .int (iN (zv))), (2, .int (iN (zLa G T N zj)))], [.int (iN (zLa G T N zj)), .int (zg.1 55 20), .ref 63], (78, 76), zg) : Option am_C)) rfl (by simp only [(show (zg).1 55 20 = iN (zj : Int) from (congrFun (rfl) 20).trans q_cn), Int32.ofInt_add, Int32.ofInt_sub, Int32.ofInt_mul, Int32.ofInt_neg])) ?_
        refine wp_iast (z := (zj : Int)) (j := ((zj : Int) : Int).toNat) (n := 16) rfl (by decide) (by decide) rfl rfl (by omega) (by omega) (by decide) ?_
        refine wp_run (k := 7) (pc1 := 78) (l1 := [(0, .ref 55), (1, .int (iN (zv))), (2, .int (iN (zLa G T N zj)))]) (st1 := [.int (iN (zLa G T N zj)), .ref 61, .int (iN ((zj : Int))), .ref 64]) (kr1 := (78, 76)) (h1 := am_wr zg 63 (((zj : Int) : Int).toNat) (iN (zLa G T N zj))) (Eq.trans (b := (some (78, [(0, .ref 55), (1, .int (iN (zv))), (2, .int (iN (zLa G T N zj)))], [.int (iN (zLa G T N zj)), .ref 61, .int ((am_wr zg 63 (((zj : Int) : Int).toNat) (iN (zLa G T N zj))).1 55 20), .ref 64], (78, 76), am_wr zg 63 (((zj : Int) : Int).toNat) (iN (zLa G T N zj))) : Option am_C)) rfl (by simp only [(show (am_wr zg 63 (((zj : Int) : Int).toNat) (iN (zLa G T N zj))).1 55 20 = iN (zj : Int) from (congrFun ((am_wr_ne (by decide)).trans (rfl)) 20).trans q_cn)]; try simp only [Int32.ofInt_add, Int32.ofInt_sub, Int32.ofInt_mul, Int32.ofInt_neg])) ?_
        refine wp_iald (f := (am_wr zg 63 (((zj : Int) : Int).toNat) (iN (zLa G T N zj))).1 61) (z := zLa G T N zj) (j := (zLa G T N zj).toNat) (n := 17) (v := iN (zLb G T N zj)) rfl rfl (by omega) (by omega) (by decide) ((congrFun ((am_wr_ne (by decide)).trans (rfl)) _).trans y_zb) ?_
        refine wp_iast (z := (zj : Int)) (j := ((zj : Int) : Int).toNat) (n := 16) rfl (by decide) (by decide) rfl rfl (by omega) (by omega) (by decide) ?_
        refine wp_run (k := 7) (pc1 := 93) (l1 := [(0, .ref 55), (1, .int (iN (zv))), (2, .int (iN (zLa G T N zj)))]) (st1 := [.int (iN (zLa G T N zj)), .ref 62, .int (iN ((zj : Int))), .ref 65]) (kr1 := (78, 76)) (h1 := am_wr (am_wr zg 63 (((zj : Int) : Int).toNat) (iN (zLa G T N zj))) 64 (((zj : Int) : Int).toNat) (iN (zLb G T N zj))) (Eq.trans (b := (some (93, [(0, .ref 55), (1, .int (iN (zv))), (2, .int (iN (zLa G T N zj)))], [.int (iN (zLa G T N zj)), .ref 62, .int ((am_wr (am_wr zg 63 (((zj : Int) : Int).toNat) (iN (zLa G T N zj))) 64 (((zj : Int) : Int).toNat) (iN (zLb G T N zj))).1 55 20), .ref 65], (78, 76), am_wr (am_wr zg 63 (((zj : Int) : Int).toNat) (iN (zLa G T N zj))) 64 (((zj : Int) : Int).toNat) (iN (zLb G T N zj))) : Option am_C)) rfl (by simp only [(show (am_wr (am_wr zg 63 (((zj : Int) : Int).toNat) (iN (zLa G T N zj))) 64 (((zj : Int) : Int).toNat) (iN (zLb G T N zj))).1 55 20 = iN (zj : Int) from (congrFun ((am_wr_ne (by decide)).trans ((am_wr_ne (by decide)).trans (rfl))) 20).trans q_cn)]; try simp only [Int32.ofInt_add, Int32.ofInt_sub, Int32.ofInt_mul, Int32.ofInt_neg])) ?_
        refine wp_iald (f := (am_wr (am_wr zg 63 (((zj : Int) : Int).toNat) (iN (zLa G T N zj))) 64 (((zj : Int) : Int).toNat) (iN (zLb G T N zj))).1 62) (z := zLa G T N zj) (j := (zLa G T N zj).toNat) (n := 17) (v := iN (zMk G T N zj)) rfl rfl (by omega) (by omega) (by decide) ((congrFun ((am_wr_ne (by decide)).trans ((am_wr_ne (by decide)).trans (rfl))) _).trans y_zm) ?_
        refine wp_iast (z := (zj : Int)) (j := ((zj : Int) : Int).toNat) (n := 16) rfl (by decide) (by decide) rfl rfl (by omega) (by omega) (by decide) ?_
        refine wp_run (k := 5) (pc1 := 104) (l1 := [(0, .ref 55), (1, .int (iN (zv))), (2, .int (iN (zLa G T N zj)))]) (st1 := [.int (iN (zLa G T N zj)), .ref 62, .ref 66]) (kr1 := (78, 76)) (h1 := am_wr (am_wr (am_wr zg 63 (((zj : Int) : Int).toNat) (iN (zLa G T N zj))) 64 (((zj : Int) : Int).toNat) (iN (zLb G T N zj))) 65 (((zj : Int) : Int).toNat) (iN (zMk G T N zj))) rfl ?_
        refine wp_iald (f := (am_wr (am_wr (am_wr zg 63 (((zj : Int) : Int).toNat) (iN (zLa G T N zj))) 64 (((zj : Int) : Int).toNat) (iN (zLb G T N zj))) 65 (((zj : Int) : Int).toNat) (iN (zMk G T N zj))).1 62) (z := zLa G T N zj) (j := (zLa G T N zj).toNat) (n := 17) (v := iN (zMk G T N zj)) rfl rfl (by omega) (by omega) (by decide) ((congrFun ((am_wr_ne (by decide)).trans ((am_wr_ne (by decide)).trans ((am_wr_ne (by decide)).trans (rfl)))) _).trans y_zm) ?_
        refine wp_run (k := 5) (pc1 := 112) (l1 := [(0, .ref 55), (1, .int (iN (zv))), (2, .int (iN (zLa G T N zj)))]) (st1 := [.int (iN (zLa G T N zj)), .ref 61, .int (iN (zLa G T N zj)), .ref 55, .int (iN (zMk G T N zj)), .ref 66]) (kr1 := (78, 76)) (h1 := am_wr (am_wr (am_wr zg 63 (((zj : Int) : Int).toNat) (iN (zLa G T N zj))) 64 (((zj : Int) : Int).toNat) (iN (zLb G T N zj))) 65 (((zj : Int) : Int).toNat) (iN (zMk G T N zj))) rfl ?_
        refine wp_iald (f := (am_wr (am_wr (am_wr zg 63 (((zj : Int) : Int).toNat) (iN (zLa G T N zj))) 64 (((zj : Int) : Int).toNat) (iN (zLb G T N zj))) 65 (((zj : Int) : Int).toNat) (iN (zMk G T N zj))).1 61) (z := zLa G T N zj) (j := (zLa G T N zj).toNat) (n := 17) (v := iN (zLb G T N zj)) rfl rfl (by omega) (by omega) (by decide) ((congrFun ((am_wr_ne (by decide)).trans ((am_wr_ne (by decide)).trans ((am_wr_ne (by decide)).trans (rfl)))) _).trans y_zb) ?_
        refine wp_call (md1 := am_m_Model_demand) (As := [.ref 55, .int (iN (zLa G T N zj)), .int (iN (zLb G T N zj))]) (rest := [.int (iN (zMk G T N zj)), .ref 66]) (kr1 := (78, 76)) rfl (jm_demand _ (by omega) (zMm_g q_nm1 (congrFun ((am_wr_ne (by decide)).trans ((am_wr_ne (by decide)).trans ((am_wr_ne (by decide)).trans (rfl)))) 0) ((am_wr_ne (by decide)).trans ((am_wr_ne (by decide)).trans ((am_wr_ne (by decide)).trans (rfl))))) q_g (za := zLa G T N zj) (zb := zLb G T N zj) (by omega)) ?_
        rintro _ _ ⟨rfl, rfl⟩
        refine wp_iast (z := zMk G T N zj) (j := (zMk G T N zj : Int).toNat) (n := 16) rfl (by decide) (by decide) rfl rfl (by omega) (by omega) (by decide) ?_
        refine wp_run (k := 5) (pc1 := 124) (l1 := [(0, .ref 55), (1, .int (iN (zv))), (2, .int (iN (zLa G T N zj)))]) (st1 := [.int (iN (((zj : Int)) + (1))), .ref 55]) (kr1 := (78, 76)) (h1 := am_wr (am_wr (am_wr (am_wr zg 63 (((zj : Int) : Int).toNat) (iN (zLa G T N zj))) 64 (((zj : Int) : Int).toNat) (iN (zLb G T N zj))) 65 (((zj : Int) : Int).toNat) (iN (zMk G T N zj))) 66 ((zMk G T N zj : Int).toNat) (iN (zD G (zLa G T N zj) (zLb G T N zj)))) (Eq.trans (b := (some (124, [(0, .ref 55), (1, .int (iN (zv))), (2, .int (iN (zLa G T N zj)))], [.int (((am_wr (am_wr (am_wr (am_wr zg 63 (((zj : Int) : Int).toNat) (iN (zLa G T N zj))) 64 (((zj : Int) : Int).toNat) (iN (zLb G T N zj))) 65 (((zj : Int) : Int).toNat) (iN (zMk G T N zj))) 66 ((zMk G T N zj : Int).toNat) (iN (zD G (zLa G T N zj) (zLb G T N zj)))).1 55 20) + (iN (1))), .ref 55], (78, 76), am_wr (am_wr (am_wr (am_wr zg 63 (((zj : Int) : Int).toNat) (iN (zLa G T N zj))) 64 (((zj : Int) : Int).toNat) (iN (zLb G T N zj))) 65 (((zj : Int) : Int).toNat) (iN (zMk G T N zj))) 66 ((zMk G T N zj : Int).toNat) (iN (zD G (zLa G T N zj) (zLb G T N zj)))) : Option am_C)) rfl (by simp only [(show (am_wr (am_wr (am_wr (am_wr zg 63 (((zj : Int) : Int).toNat) (iN (zLa G T N zj))) 64 (((zj : Int) : Int).toNat) (iN (zLb G T N zj))) 65 (((zj : Int) : Int).toNat) (iN (zMk G T N zj))) 66 ((zMk G T N zj : Int).toNat) (iN (zD G (zLa G T N zj) (zLb G T N zj)))).1 55 20 = iN (zj : Int) from (congrFun ((am_wr_ne (by decide)).trans ((am_wr_ne (by decide)).trans ((am_wr_ne (by decide)).trans ((am_wr_ne (by decide)).trans (rfl))))) 20).trans q_cn)]; try simp only [Int32.ofInt_add, Int32.ofInt_sub, Int32.ofInt_mul, Int32.ofInt_neg])) ?_
        refine wp_run (k := 4) (pc1 := 132) (l1 := [(0, .ref 55), (1, .int (iN (zv))), (2, .int (iN (zLa G T N zj)))]) (st1 := [.int (iN (zLa G T N zj)), .ref 61]) (kr1 := (78, 76)) (h1 := am_wr (am_wr (am_wr (am_wr (am_wr zg 63 (((zj : Int) : Int).toNat) (iN (zLa G T N zj))) 64 (((zj : Int) : Int).toNat) (iN (zLb G T N zj))) 65 (((zj : Int) : Int).toNat) (iN (zMk G T N zj))) 66 ((zMk G T N zj : Int).toNat) (iN (zD G (zLa G T N zj) (zLb G T N zj)))) 55 20 (iN (((zj : Int)) + (1)))) rfl ?_
        refine wp_iald (f := (am_wr (am_wr (am_wr (am_wr (am_wr zg 63 (((zj : Int) : Int).toNat) (iN (zLa G T N zj))) 64 (((zj : Int) : Int).toNat) (iN (zLb G T N zj))) 65 (((zj : Int) : Int).toNat) (iN (zMk G T N zj))) 66 ((zMk G T N zj : Int).toNat) (iN (zD G (zLa G T N zj) (zLb G T N zj)))) 55 20 (iN (((zj : Int)) + (1)))).1 61) (z := zLa G T N zj) (j := (zLa G T N zj).toNat) (n := 17) (v := iN (zLb G T N zj)) rfl rfl (by omega) (by omega) (by decide) ((congrFun ((am_wr_ne (by decide)).trans ((am_wr_ne (by decide)).trans ((am_wr_ne (by decide)).trans ((am_wr_ne (by decide)).trans ((am_wr_ne (by decide)).trans (rfl)))))) _).trans y_zb) ?_
        refine wp_run (k := 4) (pc1 := 38) (l1 := [(0, .ref 55), (1, .int (iN (zv))), (2, .int (iN ((zLb G T N zj) + (1))))]) (st1 := []) (kr1 := (78, 76)) (h1 := am_wr (am_wr (am_wr (am_wr (am_wr zg 63 (((zj : Int) : Int).toNat) (iN (zLa G T N zj))) 64 (((zj : Int) : Int).toNat) (iN (zLb G T N zj))) 65 (((zj : Int) : Int).toNat) (iN (zMk G T N zj))) 66 ((zMk G T N zj : Int).toNat) (iN (zD G (zLa G T N zj) (zLb G T N zj)))) 55 20 (iN (((zj : Int)) + (1)))) (Eq.trans (b := (some (38, [(0, .ref 55), (1, .int (iN (zv))), (2, .int ((iN (zLb G T N zj)) + (iN (1))))], [], (78, 76), am_wr (am_wr (am_wr (am_wr (am_wr zg 63 (((zj : Int) : Int).toNat) (iN (zLa G T N zj))) 64 (((zj : Int) : Int).toNat) (iN (zLb G T N zj))) 65 (((zj : Int) : Int).toNat) (iN (zMk G T N zj))) 66 ((zMk G T N zj : Int).toNat) (iN (zD G (zLa G T N zj) (zLb G T N zj)))) 55 20 (iN (((zj : Int)) + (1)))) : Option am_C)) rfl (by simp only [Int32.ofInt_add, Int32.ofInt_sub, Int32.ofInt_mul, Int32.ofInt_neg])) ?_
        refine z_ih (am_wr (am_wr (am_wr (am_wr (am_wr zg 63 (((zj : Int) : Int).toNat) (iN (zLa G T N zj))) 64 (((zj : Int) : Int).toNat) (iN (zLb G T N zj))) 65 (((zj : Int) : Int).toNat) (iN (zMk G T N zj))) 66 ((zMk G T N zj : Int).toNat) (iN (zD G (zLa G T N zj) (zLb G T N zj)))) 55 20 (iN (((zj : Int)) + (1)))) (zj + 1) (am_fr_w (am_fr_w (am_fr_w (am_fr_w (am_fr_w (q_f) (by decide) _ _) (by decide) _ _) (by decide) _ _) (by decide) _ _) (by decide) _ _) ?_ ?_ (by show zLb G T N zj + 1 ≤ N; omega) ?_ ?_ ?_ ?_
        · intro zs y1; rw [am_wr_no y1, am_wr_ne (by decide), am_wr_ne (by decide), am_wr_ne (by decide), am_wr_ne (by decide)]; exact q_sl zs y1
        · intro j y1
          by_cases y2 : j = zj
          · rw [y2]; exact ⟨by omega, y_q⟩
          · exact q_lq j (by omega)
        · rw [am_wr_at]; rfl
        · intro j y1
          rw [am_wr_ne (show 63 ≠ 55 by decide), am_wr_ne (show 63 ≠ 66 by decide), am_wr_ne (show 63 ≠ 65 by decide), am_wr_ne (show 63 ≠ 64 by decide), am_wr_ne (show 64 ≠ 55 by decide), am_wr_ne (show 64 ≠ 66 by decide), am_wr_ne (show 64 ≠ 65 by decide), am_wr_ne (show 65 ≠ 55 by decide), am_wr_ne (show 65 ≠ 66 by decide)]
          by_cases y2 : j = zj
          · subst y2; rw [show ((j : Int) : Int).toNat = j by omega, am_wr_at, am_wr_at, am_wr_at]; exact ⟨rfl, rfl, rfl⟩
          · rw [am_wr_no (by omega), am_wr_no (by omega), am_wr_no (by omega), am_wr_ne (show 64 ≠ 63 by decide), am_wr_ne (show 65 ≠ 64 by decide), am_wr_ne (show 65 ≠ 63 by decide)]; exact q_rw j (by omega)
        · intro p y1 y2
          rw [am_wr_ne (by decide)]
          show _ = iN (if p = zMk G T N zj then zD G (zLa G T N zj) (zLb G T N zj) else zMd G T N zj p)
          by_cases y3 : p = zMk G T N zj
          · rw [if_pos y3, y3, am_wr_at]
          · rw [if_neg y3, am_wr_no (by omega), am_wr_ne (by decide), am_wr_ne (by decide), am_wr_ne (by decide)]; exact q_md p y1 y2
        · show N - (zLb G T N zj + 1) < _; omega
set_option maxRecDepth 20000 in
set_option maxHeartbeats 4000000 in
theorem jl_mpzero (zd : Nat) (q_d : 2 ≤ zd) {zh : am_H} {zv : Int}  {zQ : Option Value → am_H → Prop} (zk : ∀ zg : am_H, am_fr [66] zh zg → (∀ x : Int, 0 ≤ x → x < 16 → zg.1 66 x.toNat = iN 0) → am_wp zd am_m_Model_thePlan 36 [(0, .ref 55), (1, .int (iN (zv))), (2, .int (iN (16)))] [] (78, 76) zg (78, 76) zQ) : ∀ (z_n : Nat) (zg : am_H) (zi : Int) (q_f : am_fr [66] zh zg) (q_i : 0 ≤ zi ∧ zi ≤ 16) (q_w : ∀ x : Int, 0 ≤ x → x < zi → zg.1 66 x.toNat = iN 0), 16 - zi < (z_n : Int) → am_wp zd am_m_Model_thePlan 17 [(0, .ref 55), (1, .int (iN (zv))), (2, .int (iN (zi)))] [] (78, 76) zg (78, 76) zQ := by
  obtain ⟨zd, rfl⟩ : ∃ y_e, zd = y_e + 2 := ⟨zd - 2, by omega⟩
  intro z_n
  induction z_n with
  | zero => intro zg zi q_f q_i q_w q_m; omega
  | succ z_n z_ih =>
    intro zg zi q_f q_i q_w q_m
    refine wp_run (k := 2) (pc1 := 20) (l1 := [(0, .ref 55), (1, .int (iN (zv))), (2, .int (iN (zi)))]) (st1 := [.int (iN (16)), .int (iN (zi))]) (kr1 := (78, 76)) (h1 := zg) rfl ?_
    refine wp_ge (a := zi) (b := 16) rfl (by omega) (by omega) (fun b_20 => ?_) (fun b_20 => ?_)
    · have y_9 : zi = 16 := by omega
      rw [y_9]
      exact zk zg q_f (fun x y1 y2 => q_w x y1 (by omega))
    · refine wp_run (k := 4) (pc1 := 29) (l1 := [(0, .ref 55), (1, .int (iN (zv))), (2, .int (iN (zi)))]) (st1 := [.int (iN (0)), .int (iN (zi)), .ref 66]) (kr1 := (78, 76)) (h1 := zg) rfl ?_
      refine wp_iast (z := zi) (j := zi.toNat) (n := 16) rfl (by decide) (by decide) rfl rfl (by omega) (by omega) (by decide) ?_
      refine wp_run (k := 2) (pc1 := 17) (l1 := [(0, .ref 55), (1, .int (iN (zv))), (2, .int (iN ((zi) + 1)))]) (st1 := []) (kr1 := (78, 76)) (h1 := am_wr zg 66 (zi.toNat) (iN (0))) (Eq.trans (b := (some (17, [(0, .ref 55), (1, .int (iN (zv))), (2, .int ((iN (zi)) + iN (1)))], [], (78, 76), am_wr zg 66 (zi.toNat) (iN (0))) : Option am_C)) rfl (by simp only [Int32.ofInt_add, Int32.ofInt_sub, Int32.ofInt_mul, Int32.ofInt_neg])) ?_
      refine z_ih _ (zi + 1) (am_fr_w q_f (by decide) _ _) (by omega) (fun x y1 y2 => ?_) (by omega)
      by_cases y3 : x = zi
      · rw [y3, am_wr_at]
      · rw [am_wr_no (by omega)]; exact q_w x y1 (by omega)
set_option maxRecDepth 20000 in
set_option maxHeartbeats 4000000 in
theorem jm_thePlan (zd : Nat) (q_d : 6 ≤ zd) {zh : am_H} {N : Int} {G : Int → Int → Int} {S T : Int} (q_nm : zMm (zh.1 55) (zh.1 56) N G S T) (q_g : zGk N G S T) : am_wp zd am_m_Model_thePlan 0 [(0, .ref 55)] [] (78, 76) zh (78, 76) (fun rv h' => rv = some (.int (iN (zPv G T N 0).1)) ∧ am_fr [55, 60, 61, 62, 63, 64, 65, 66] zh h' ∧ (∀ zs : Nat, zs ≠ 20 → h'.1 55 zs = zh.1 55 zs) ∧ zTookM h' N G T) := by
  obtain ⟨zd, rfl⟩ : ∃ y_e, zd = y_e + 6 := ⟨zd - 6, by omega⟩
  have q_N := q_g.1
  refine wp_run (k := 4) (pc1 := 6) (l1 := [(0, .ref 55)]) (st1 := [.int (iN (N)), .int (iN (0)), .ref 55]) (kr1 := (78, 76)) (h1 := zh) (Eq.trans (b := (some (6, [(0, .ref 55)], [.int (zh.1 55 0), .int (iN (0)), .ref 55], (78, 76), zh) : Option am_C)) rfl (by simp only [q_nm.1, Int32.ofInt_add, Int32.ofInt_sub, Int32.ofInt_mul, Int32.ofInt_neg])) ?_
  refine wp_call (md1 := am_m_Model_plans) (As := [.ref 55, .int (iN (0)), .int (iN (N))]) (rest := []) (kr1 := (78, 76)) rfl (jm_plans _ (by omega) q_nm q_g (za := 0) (zn := N) (by omega)) ?_
  rintro _ zg1 ⟨rfl, q_f1, q_row1⟩
  refine wp_run (k := 6) (pc1 := 17) (l1 := [(0, .ref 55), (1, .int (iN ((zPv G T N 0).1))), (2, .int (iN (0)))]) (st1 := []) (kr1 := (78, 76)) (h1 := am_wr zg1 55 20 (iN (0))) rfl ?_
  have q_f1a : am_fr [55] zg1 (am_wr zg1 55 20 (iN (0))) := am_fr_w (am_fr_0 _ _) (by decide) _ _
  refine jl_mpzero (zh := am_wr zg1 55 20 (iN (0))) _ (by omega) ?_ 17 (am_wr zg1 55 20 (iN (0))) 0 (am_fr_0 _ _) (by omega) (fun k y1 y2 => by omega) (by omega)
  intro zg2 q_f2 q_w2
  have q_s2 : ∀ zs : Nat, zs ≠ 20 → zg2.1 55 zs = zh.1 55 zs := fun zs y1 => by rw [q_f2.2 55 (by decide), am_wr_no y1, q_f1.2 55 (by decide)]
  have q_c2 : zg2.1 55 20 = iN 0 := by rw [q_f2.2 55 (by decide), am_wr_at]
  have q_f3 : am_fr [55, 60, 61, 62, 63, 64, 65, 66] zh zg2 := am_fr_t (am_fr_m q_f1 (fun c y => by simp only [List.mem_cons, List.not_mem_nil, or_false] at y ⊢; omega)) (am_fr_t (am_fr_m q_f1a (fun c y => by simp only [List.mem_cons, List.not_mem_nil, or_false] at y ⊢; omega)) (am_fr_m q_f2 (fun c y => by simp only [List.mem_cons, List.not_mem_nil, or_false] at y ⊢; omega)))
  have q_row2 : zMrow zg2 G T N 0 := by unfold zMrow; rw [q_f2.2 60 (by decide), q_f2.2 61 (by decide), q_f2.2 62 (by decide), q_f1a.2 60 (by decide), q_f1a.2 61 (by decide), q_f1a.2 62 (by decide)]; exact q_row1
  refine wp_run (k := 2) (pc1 := 38) (l1 := [(0, .ref 55), (1, .int (iN ((zPv G T N 0).1))), (2, .int (iN (0)))]) (st1 := []) (kr1 := (78, 76)) (h1 := zg2) rfl ?_
  refine jl_mplots (zh := zg2) (S := S) (T := T) _ (by omega) (zMm_g q_nm (q_s2 0 (by decide)) (q_f3.2 56 (by decide))) q_g q_row2 ?_ 17 zg2 0 (am_fr_0 _ _) (fun _ _ => rfl) (fun j y1 => by omega) (by show (0 : Int) ≤ N; omega) q_c2 (fun j y1 => by omega) (fun p y1 y2 => q_w2 p y1 y2) (by show N - 0 < _; omega)
  intro zg3 zj q_f4 q_sl4 q_n4 q_cn4 q_rw4 q_md4
  refine wp_run (k := 1) (pc1 := 140) (l1 := [(0, .ref 55), (1, .int (iN ((zPv G T N 0).1))), (2, .int (iN (zLa G T N zj)))]) (st1 := [.int (iN ((zPv G T N 0).1))]) (kr1 := (78, 76)) (h1 := zg3) rfl ?_
  refine wp_ret (rv := some (.int (iN ((zPv G T N 0).1)))) rfl ?_
  exact ⟨rfl, am_fr_t q_f3 (am_fr_m q_f4 (fun c y => by simp only [List.mem_cons, List.not_mem_nil, or_false] at y ⊢; omega)), fun zs y1 => (q_sl4 zs y1).trans (q_s2 zs y1), zj, q_n4, q_cn4, q_rw4, q_md4⟩
