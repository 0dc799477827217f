/-! THE REFERENCE's methods: rules of thumb, in thought, by hand -/
theorem zRS_56 {zh zg zk : am_H} {j : Nat} {a b : Int32} (q1 : zRS zh zg) (q2 : zRS (am_wr zg 56 j a) zk) (q3 : zh.1 56 j = b) : zRS zh (am_wr zk 56 j b) := by
  obtain ⟨⟨f1, f2⟩, f3⟩ := q1
  obtain ⟨⟨g1, g2⟩, g3⟩ := q2
  refine ⟨⟨?_, fun c y => ?_⟩, ?_⟩
  · show zk.2 = zh.2
    rw [g1]
    exact f1
  · by_cases y1 : c = 56
    · subst y1
      funext k
      rw [am_wr_eq]
      by_cases y2 : k = j
      · rw [if_pos y2, y2, q3]
      · rw [if_neg y2, g2 56 (by decide), am_wr_no y2, f2 56 (by decide)]
    · rw [am_wr_ne y1, g2 c y, am_wr_ne y1, f2 c y]
  · rw [am_wr_ne (show 55 ≠ 56 by decide)]
    rw [am_wr_ne (show 55 ≠ 56 by decide)] at g3
    exact ⟨g3.1.trans f3.1, g3.2.1.trans f3.2.1, g3.2.2.1.trans f3.2.2.1, g3.2.2.2.1.trans f3.2.2.2.1, g3.2.2.2.2.trans f3.2.2.2.2⟩
def zPw : Nat → Int
  | 0 => 1
  | k + 1 => 2 * zPw k
theorem zMm_v {fo fc : Nat → Int32} {N : Int} {G : Int → Int → Int} {S T w p : Int} (q : zMm fo fc N G S T) (q_w : 0 ≤ w ∧ w < 6) (q_p : 0 ≤ p ∧ p < N) {j : Int} (q_j : j = 16 * w + p) : fc j.toNat = iN (G w p) := by
  subst q_j
  exact q.2.1 w p q_w.1 q_w.2 q_p.1 q_p.2
set_option maxRecDepth 20000 in
set_option maxHeartbeats 4000000 in
theorem jl_mthumb (zd : Nat) (q_d : 6 ≤ zd) {zh : am_H} {N : Int} {G : Int → Int → Int} {S T : Int} (q_nm : zMm (zh.1 55) (zh.1 56) N G S T) (q_g : zGk N G S T) {zQ : Option Value → am_H → Prop} (zk2 : ∀ (zg : am_H) (zr : Int), zRS zh zg → zr = (zTm N G 19).2 → zQ (some (.int (iN zr))) zg) : ∀ (z_n : Nat) (zg : am_H) (zn : Nat) (zb : Int) (zc : Int) (q_R : zRS zh zg) (q_n : 1 ≤ zn ∧ zn ≤ 19) (q_z : (zc, zb) = zTm N G zn), (19 : Int) - zn + 1 < (z_n : Int) → am_wp zd am_m_Model_thumb 15 [(0, .ref 55), (1, .int (iN (zb))), (2, .int (iN (zc))), (3, .int (iN ((zn : Int))))] [] (78, 76) zg (78, 76) zQ := by
  obtain ⟨zd, rfl⟩ : ∃ y_e, zd = y_e + 6 := ⟨zd - 6, by omega⟩
  intro z_n
  induction z_n with
  | zero => intro zg zn zb zc q_R q_n q_z q_m; omega
  | succ z_n z_ih =>
    intro zg zn zb zc q_R q_n q_z q_m
    have q_N := q_g.1
    refine wp_run (k := 2) (pc1 := 18) (l1 := [(0, .ref 55), (1, .int (iN (zb))), (2, .int (iN (zc))), (3, .int (iN ((zn : Int))))]) (st1 := [.int (iN (18)), .int (iN ((zn : Int)))]) (kr1 := (78, 76)) (h1 := zg) rfl ?_
    refine wp_gt (a := (zn : Int)) (b := 18) rfl (by omega) (by omega) (fun b_18 => ?_) (fun b_18 => ?_)
    · refine wp_run (k := 1) (pc1 := 84) (l1 := [(0, .ref 55), (1, .int (iN (zb))), (2, .int (iN (zc))), (3, .int (iN ((zn : Int))))]) (st1 := [.int (iN (zb))]) (kr1 := (78, 76)) (h1 := zg) rfl ?_
      refine wp_ret (rv := some (.int (iN (zb)))) rfl ?_
      have y_n : zn = 19 := by omega
      subst y_n
      exact zk2 zg _ q_R (by rw [← q_z])
    · have y_tm := zTm_rg q_g zn
      rw [← q_z] at y_tm
      dsimp only at y_tm
      refine wp_run (k := 2) (pc1 := 24) (l1 := [(0, .ref 55), (1, .int (iN (zb))), (2, .int (iN (zc))), (3, .int (iN ((zn : Int))))]) (st1 := [.int (iN (16)), .int (iN ((zn : Int)))]) (kr1 := (78, 76)) (h1 := zg) rfl ?_
      refine wp_gt (a := (zn : Int)) (b := 16) rfl (by omega) (by omega) (fun b_24 => ?_) (fun b_24 => ?_)
      · refine wp_run (k := 9) (pc1 := 43) (l1 := [(0, .ref 55), (1, .int (iN (zb))), (2, .int (iN (zc))), (3, .int (iN ((zn : Int)))), (4, .int (iN ((((zn : Int)) - (16)) + (1))))]) (st1 := [.int (iN ((zn : Int))), .int (iN ((((zn : Int)) - (16)) + (1))), .ref 55]) (kr1 := (78, 76)) (h1 := zg) (Eq.trans (b := (some (43, [(0, .ref 55), (1, .int (iN (zb))), (2, .int (iN (zc))), (3, .int (iN ((zn : Int)))), (4, .int (((iN ((zn : Int))) - (iN (16))) + (iN (1))))], [.int (iN ((zn : Int))), .int (((iN ((zn : Int))) - (iN (16))) + (iN (1))), .ref 55], (78, 76), zg) : Option am_C)) rfl (by simp only [Int32.ofInt_add, Int32.ofInt_sub, Int32.ofInt_mul, Int32.ofInt_neg])) ?_
        refine wp_call (md1 := am_m_Model_rules) (As := [.ref 55, .int (iN ((((zn : Int)) - (16)) + (1))), .int (iN ((zn : Int)))]) (rest := []) (kr1 := (78, 76)) rfl (jm_rules (zr := (((zn : Int)) - (16)) + (1)) (zn := (zn : Int)) _ (by omega) (zRS_mm q_R q_nm) q_g (by omega) (by omega)) ?_
        rintro _ zg1 ⟨rfl, q_f1, q_s1, q_c1, q_l1, q_be1⟩
        have q_R1 : zRS zh zg1 := zRS_t q_R (zRS_s q_f1 (fun c y => by simp only [List.mem_cons, List.not_mem_nil, or_false] at y ⊢; omega) q_s1 (by decide))
        have y_r := zRu_rg q_g ((((zn : Int)) - (16)) + (1)) ((zn : Int))
        refine wp_run (k := 3) (pc1 := 51) (l1 := [(0, .ref 55), (1, .int (iN (zb))), (2, .int (iN (zc))), (3, .int (iN ((zn : Int)))), (4, .int (iN ((((zn : Int)) - (16)) + (1))))]) (st1 := [.int (iN (zc)), .int (iN ((zRu N G ((((zn : Int)) - (16)) + (1)) ((zn : Int))).1))]) (kr1 := (78, 76)) (h1 := zg1) (Eq.trans (b := (some (51, [(0, .ref 55), (1, .int (iN (zb))), (2, .int (iN (zc))), (3, .int (iN ((zn : Int)))), (4, .int (iN ((((zn : Int)) - (16)) + (1))))], [.int (iN (zc)), .int (zg1.1 55 26)], (78, 76), zg1) : Option am_C)) rfl (by simp only [q_c1, Int32.ofInt_add, Int32.ofInt_sub, Int32.ofInt_mul, Int32.ofInt_neg])) ?_
        refine wp_ge (a := (zRu N G ((((zn : Int)) - (16)) + (1)) ((zn : Int))).1) (b := zc) rfl (by omega) (by omega) (fun b_51 => ?_) (fun b_51 => ?_)
        · refine wp_run (k := 2) (pc1 := 15) (l1 := [(0, .ref 55), (1, .int (iN (zb))), (2, .int (iN (zc))), (3, .int (iN (((zn : Int)) + 1))), (4, .int (iN ((((zn : Int)) - (16)) + (1))))]) (st1 := []) (kr1 := (78, 76)) (h1 := zg1) (Eq.trans (b := (some (15, [(0, .ref 55), (1, .int (iN (zb))), (2, .int (iN (zc))), (3, .int ((iN ((zn : Int))) + iN (1))), (4, .int (iN ((((zn : Int)) - (16)) + (1))))], [], (78, 76), zg1) : Option am_C)) rfl (by simp only [Int32.ofInt_add, Int32.ofInt_sub, Int32.ofInt_mul, Int32.ofInt_neg])) ?_
          refine wp_drop [4] (l := [(0, .ref 55), (1, .int (iN (zb))), (2, .int (iN (zc))), (3, .int (iN (((zn : Int)) + 1)))]) rfl rfl ?_
          have y_s := zTm_s (N := N) (G := G) (k := zn) (r := (((zn : Int)) - (16)) + (1)) (n := (zn : Int)) (x := 100 * ((((zn : Int)) - (16)) + (1)) + (if (((zn : Int)) - (16)) + (1) = 1 then (zn : Int) else 0)) (by unfold zTr; (repeat' split) <;> omega) rfl rfl
          refine z_ih zg1 (zn + 1) (zb) (zc) q_R1 (by omega) ?_ (by omega)
          rw [y_s, if_neg (by rw [← q_z]; omega), ← q_z]
        · refine wp_run (k := 8) (pc1 := 67) (l1 := [(0, .ref 55), (1, .int (iN (zb))), (2, .int (iN ((zRu N G ((((zn : Int)) - (16)) + (1)) ((zn : Int))).1))), (3, .int (iN ((zn : Int)))), (4, .int (iN ((((zn : Int)) - (16)) + (1))))]) (st1 := [.int (iN (16)), .int (iN ((zn : Int))), .int (iN ((100) * ((((zn : Int)) - (16)) + (1))))]) (kr1 := (78, 76)) (h1 := zg1) (Eq.trans (b := (some (67, [(0, .ref 55), (1, .int (iN (zb))), (2, .int (zg1.1 55 26)), (3, .int (iN ((zn : Int)))), (4, .int (iN ((((zn : Int)) - (16)) + (1))))], [.int (iN (16)), .int (iN ((zn : Int))), .int ((iN (100)) * (iN ((((zn : Int)) - (16)) + (1))))], (78, 76), zg1) : Option am_C)) rfl (by simp only [q_c1, Int32.ofInt_add, Int32.ofInt_sub, Int32.ofInt_mul, Int32.ofInt_neg])) ?_
          refine wp_gt (a := (zn : Int)) (b := 16) rfl (by omega) (by omega) (fun b_67 => ?_) (fun b_67 => ?_)
          · refine wp_run (k := 5) (pc1 := 15) (l1 := [(0, .ref 55), (1, .int (iN (((100) * ((((zn : Int)) - (16)) + (1))) + (0)))), (2, .int (iN ((zRu N G ((((zn : Int)) - (16)) + (1)) ((zn : Int))).1))), (3, .int (iN (((zn : Int)) + 1))), (4, .int (iN ((((zn : Int)) - (16)) + (1))))]) (st1 := []) (kr1 := (78, 76)) (h1 := zg1) (Eq.trans (b := (some (15, [(0, .ref 55), (1, .int ((iN ((100) * ((((zn : Int)) - (16)) + (1)))) + (iN (0)))), (2, .int (iN ((zRu N G ((((zn : Int)) - (16)) + (1)) ((zn : Int))).1))), (3, .int ((iN ((zn : Int))) + iN (1))), (4, .int (iN ((((zn : Int)) - (16)) + (1))))], [], (78, 76), zg1) : Option am_C)) rfl (by simp only [Int32.ofInt_add, Int32.ofInt_sub, Int32.ofInt_mul, Int32.ofInt_neg])) ?_
            refine wp_drop [4] (l := [(0, .ref 55), (1, .int (iN (((100) * ((((zn : Int)) - (16)) + (1))) + (0)))), (2, .int (iN ((zRu N G ((((zn : Int)) - (16)) + (1)) ((zn : Int))).1))), (3, .int (iN (((zn : Int)) + 1)))]) rfl rfl ?_
            have y_s := zTm_s (N := N) (G := G) (k := zn) (r := (((zn : Int)) - (16)) + (1)) (n := (zn : Int)) (x := 100 * ((((zn : Int)) - (16)) + (1)) + (if (((zn : Int)) - (16)) + (1) = 1 then (zn : Int) else 0)) (by unfold zTr; (repeat' split) <;> omega) rfl rfl
            refine z_ih zg1 (zn + 1) (((100) * ((((zn : Int)) - (16)) + (1))) + (0)) ((zRu N G ((((zn : Int)) - (16)) + (1)) ((zn : Int))).1) q_R1 (by omega) ?_ (by omega)
            rw [y_s, if_pos (by rw [← q_z]; omega)]
            exact congrArg (Prod.mk _) (by (repeat' split) <;> omega)
          · exact absurd b_67 (by omega)
      · refine wp_run (k := 6) (pc1 := 43) (l1 := [(0, .ref 55), (1, .int (iN (zb))), (2, .int (iN (zc))), (3, .int (iN ((zn : Int)))), (4, .int (iN (1)))]) (st1 := [.int (iN ((zn : Int))), .int (iN (1)), .ref 55]) (kr1 := (78, 76)) (h1 := zg) rfl ?_
        refine wp_call (md1 := am_m_Model_rules) (As := [.ref 55, .int (iN (1)), .int (iN ((zn : Int)))]) (rest := []) (kr1 := (78, 76)) rfl (jm_rules (zr := 1) (zn := (zn : Int)) _ (by omega) (zRS_mm q_R q_nm) q_g (by omega) (by omega)) ?_
        rintro _ zg1 ⟨rfl, q_f1, q_s1, q_c1, q_l1, q_be1⟩
        have q_R1 : zRS zh zg1 := zRS_t q_R (zRS_s q_f1 (fun c y => by simp only [List.mem_cons, List.not_mem_nil, or_false] at y ⊢; omega) q_s1 (by decide))
        have y_r := zRu_rg q_g (1) ((zn : Int))
        refine wp_run (k := 3) (pc1 := 51) (l1 := [(0, .ref 55), (1, .int (iN (zb))), (2, .int (iN (zc))), (3, .int (iN ((zn : Int)))), (4, .int (iN (1)))]) (st1 := [.int (iN (zc)), .int (iN ((zRu N G (1) ((zn : Int))).1))]) (kr1 := (78, 76)) (h1 := zg1) (Eq.trans (b := (some (51, [(0, .ref 55), (1, .int (iN (zb))), (2, .int (iN (zc))), (3, .int (iN ((zn : Int)))), (4, .int (iN (1)))], [.int (iN (zc)), .int (zg1.1 55 26)], (78, 76), zg1) : Option am_C)) rfl (by simp only [q_c1, Int32.ofInt_add, Int32.ofInt_sub, Int32.ofInt_mul, Int32.ofInt_neg])) ?_
        refine wp_ge (a := (zRu N G (1) ((zn : Int))).1) (b := zc) rfl (by omega) (by omega) (fun b_51 => ?_) (fun b_51 => ?_)
        · refine wp_run (k := 2) (pc1 := 15) (l1 := [(0, .ref 55), (1, .int (iN (zb))), (2, .int (iN (zc))), (3, .int (iN (((zn : Int)) + 1))), (4, .int (iN (1)))]) (st1 := []) (kr1 := (78, 76)) (h1 := zg1) (Eq.trans (b := (some (15, [(0, .ref 55), (1, .int (iN (zb))), (2, .int (iN (zc))), (3, .int ((iN ((zn : Int))) + iN (1))), (4, .int (iN (1)))], [], (78, 76), zg1) : Option am_C)) rfl (by simp only [Int32.ofInt_add, Int32.ofInt_sub, Int32.ofInt_mul, Int32.ofInt_neg])) ?_
          refine wp_drop [4] (l := [(0, .ref 55), (1, .int (iN (zb))), (2, .int (iN (zc))), (3, .int (iN (((zn : Int)) + 1)))]) rfl rfl ?_
          have y_s := zTm_s (N := N) (G := G) (k := zn) (r := 1) (n := (zn : Int)) (x := 100 * (1) + (if 1 = 1 then (zn : Int) else 0)) (by unfold zTr; (repeat' split) <;> omega) rfl rfl
          refine z_ih zg1 (zn + 1) (zb) (zc) q_R1 (by omega) ?_ (by omega)
          rw [y_s, if_neg (by rw [← q_z]; omega), ← q_z]
        · refine wp_run (k := 8) (pc1 := 67) (l1 := [(0, .ref 55), (1, .int (iN (zb))), (2, .int (iN ((zRu N G (1) ((zn : Int))).1))), (3, .int (iN ((zn : Int)))), (4, .int (iN (1)))]) (st1 := [.int (iN (16)), .int (iN ((zn : Int))), .int (iN ((100) * (1)))]) (kr1 := (78, 76)) (h1 := zg1) (Eq.trans (b := (some (67, [(0, .ref 55), (1, .int (iN (zb))), (2, .int (zg1.1 55 26)), (3, .int (iN ((zn : Int)))), (4, .int (iN (1)))], [.int (iN (16)), .int (iN ((zn : Int))), .int ((iN (100)) * (iN (1)))], (78, 76), zg1) : Option am_C)) rfl (by simp only [q_c1, Int32.ofInt_add, Int32.ofInt_sub, Int32.ofInt_mul, Int32.ofInt_neg])) ?_
          refine wp_gt (a := (zn : Int)) (b := 16) rfl (by omega) (by omega) (fun b_67 => ?_) (fun b_67 => ?_)
          · exact absurd b_67 (by omega)
          · refine wp_run (k := 6) (pc1 := 15) (l1 := [(0, .ref 55), (1, .int (iN (((100) * (1)) + ((zn : Int))))), (2, .int (iN ((zRu N G (1) ((zn : Int))).1))), (3, .int (iN (((zn : Int)) + 1))), (4, .int (iN (1)))]) (st1 := []) (kr1 := (78, 76)) (h1 := zg1) (Eq.trans (b := (some (15, [(0, .ref 55), (1, .int ((iN ((100) * (1))) + (iN ((zn : Int))))), (2, .int (iN ((zRu N G (1) ((zn : Int))).1))), (3, .int ((iN ((zn : Int))) + iN (1))), (4, .int (iN (1)))], [], (78, 76), zg1) : Option am_C)) rfl (by simp only [Int32.ofInt_add, Int32.ofInt_sub, Int32.ofInt_mul, Int32.ofInt_neg])) ?_
            refine wp_drop [4] (l := [(0, .ref 55), (1, .int (iN (((100) * (1)) + ((zn : Int))))), (2, .int (iN ((zRu N G (1) ((zn : Int))).1))), (3, .int (iN (((zn : Int)) + 1)))]) rfl rfl ?_
            have y_s := zTm_s (N := N) (G := G) (k := zn) (r := 1) (n := (zn : Int)) (x := 100 * (1) + (if 1 = 1 then (zn : Int) else 0)) (by unfold zTr; (repeat' split) <;> omega) rfl rfl
            refine z_ih zg1 (zn + 1) (((100) * (1)) + ((zn : Int))) ((zRu N G (1) ((zn : Int))).1) q_R1 (by omega) ?_ (by omega)
            rw [y_s, if_pos (by rw [← q_z]; omega)]
            exact congrArg (Prod.mk _) (by (repeat' split) <;> omega)
set_option maxRecDepth 20000 in
set_option maxHeartbeats 4000000 in
theorem jR_thumb (zd : Nat) (q_d : 6 ≤ zd) {zh : am_H} {N : Int} {G : Int → Int → Int} {S T : Int} (q_nm : zMm (zh.1 55) (zh.1 56) N G S T) (q_g : zGk N G S T) : am_wp zd am_m_Model_thumb 0 [(0, .ref 55)] [] (78, 76) zh (78, 76) (fun rv h' => rv = some (.int (iN ((zTm N G 19).2))) ∧ zRS zh h') := by
  obtain ⟨zd, rfl⟩ : ∃ y_e, zd = y_e + 6 := ⟨zd - 6, by omega⟩
  have q_N := q_g.1
  refine wp_run (k := 5) (pc1 := 5) (l1 := [(0, .ref 55), (1, .int (iN (0)))]) (st1 := [.int (iN (0)), .int (iN (0)), .ref 55]) (kr1 := (78, 76)) (h1 := zh) rfl ?_
  refine wp_call (md1 := am_m_Model_rules) (As := [.ref 55, .int (iN (0)), .int (iN (0))]) (rest := []) (kr1 := (78, 76)) rfl (jm_rules (zr := 0) (zn := 0) _ (by omega) q_nm q_g (by omega) (by omega)) ?_
  rintro _ zg1 ⟨rfl, q_f1, q_s1, q_c1, q_l1, q_be1⟩
  have q_R1 : zRS zh zg1 := zRS_s q_f1 (fun c y => by simp only [List.mem_cons, List.not_mem_nil, or_false] at y ⊢; omega) q_s1 (by decide)
  have y_r := zRu_rg q_g 0 0
  refine wp_run (k := 5) (pc1 := 15) (l1 := [(0, .ref 55), (1, .int (iN (0))), (2, .int (iN ((zRu N G 0 0).1))), (3, .int (iN (1)))]) (st1 := []) (kr1 := (78, 76)) (h1 := zg1) (Eq.trans (b := (some (15, [(0, .ref 55), (1, .int (iN (0))), (2, .int (zg1.1 55 26)), (3, .int (iN (1)))], [], (78, 76), zg1) : Option am_C)) rfl (by simp only [q_c1, Int32.ofInt_add, Int32.ofInt_sub, Int32.ofInt_mul, Int32.ofInt_neg])) ?_
  exact jl_mthumb (zh := zh) _ (by omega) q_nm q_g (fun zg zr y1 y2 => ⟨by rw [y2], y1⟩) 20 zg1 1 0 ((zRu N G 0 0).1) q_R1 (by omega) (by rw [zTm_s (N := N) (G := G) (k := 0) (r := 0) (n := 0) (x := 0) rfl rfl (by decide)]; exact (if_pos (show (zRu N G 0 0).1 < 1000000000 by omega)).symm) (by omega)
set_option maxRecDepth 20000 in
set_option maxHeartbeats 4000000 in
theorem jR_more (zd : Nat) (q_d : 7 ≤ zd) {zh : am_H} {N : Int} {G : Int → Int → Int} {S T : Int} {zp : Int} (q_nm : zMm (zh.1 55) (zh.1 56) N G S T) (q_g : zGk N G S T) (q_zpr : -2147483648 ≤ zp ∧ zp < 2147483648) : am_wp zd am_m_Model_more 0 [(0, .ref 55), (1, .int (iN (zp)))] [] (78, 76) zh (78, 76) (fun rv h' => rv = some (.int (iN (zVmore N G T zp))) ∧ zRS zh h') := by
  obtain ⟨zd, rfl⟩ : ∃ y_e, zd = y_e + 7 := ⟨zd - 7, by omega⟩
  have q_N := q_g.1
  refine wp_run (k := 2) (pc1 := 2) (l1 := [(0, .ref 55), (1, .int (iN (zp)))]) (st1 := [.int (iN (zp)), .ref 55]) (kr1 := (78, 76)) (h1 := zh) rfl ?_
  refine wp_call (md1 := am_m_Model_isPeriod) (As := [.ref 55, .int (iN (zp))]) (rest := []) (kr1 := (78, 76)) rfl (jm_isPeriod _ (by omega) q_nm q_g (zp := zp) (by omega)) ?_
  rintro _ _ ⟨rfl, rfl⟩
  refine wp_eqb rfl (fun b_5 => ?_) (fun b_5 => ?_)
  · refine wp_run (k := 1) (pc1 := 22) (l1 := [(0, .ref 55), (1, .int (iN (zp)))]) (st1 := [.int (iN (-10000))]) (kr1 := (78, 76)) (h1 := zh) rfl ?_
    refine wp_ret (rv := some (.int (iN (-10000)))) rfl ?_
    refine ⟨?_, zRS_0 _⟩
    rw [show zVmore N G T zp = -10000 from ?_]
    unfold zVmore
    (repeat' split) <;> first | rfl | omega | contradiction | (exfalso; omega) | (exfalso; rename_i y_x; exact absurd y_x.2.1 (by assumption)) | (exfalso; rename_i y_x; exact y_x ⟨by omega, by assumption, by omega⟩)
  · refine wp_run (k := 3) (pc1 := 11) (l1 := [(0, .ref 55), (1, .int (iN (zp)))]) (st1 := [.int (iN (zp)), .int (iN (0)), .ref 55]) (kr1 := (78, 76)) (h1 := zh) rfl ?_
    refine wp_call (md1 := am_m_Model_num) (As := [.ref 55, .int (iN (0)), .int (iN (zp))]) (rest := []) (kr1 := (78, 76)) rfl (jm_num _ (by omega) q_nm q_g (zw := 0) (zp := zp) (by omega) (by omega)) ?_
    rintro _ _ ⟨rfl, rfl⟩
    have y_G := q_g.2.1 0 zp (by omega) (by omega) (by omega) (by omega)
    have y_v0 := (show vmax 0 = 99 from rfl)
    refine wp_run (k := 1) (pc1 := 16) (l1 := [(0, .ref 55), (1, .int (iN (zp)))]) (st1 := [.int (iN (99)), .int (iN (G (0) (zp)))]) (kr1 := (78, 76)) (h1 := zh) rfl ?_
    refine wp_ne (a := G (0) (zp)) (b := 99) rfl (by omega) (by omega) (fun b_16 => ?_) (fun b_16 => ?_)
    · refine wp_run (k := 4) (pc1 := 29) (l1 := [(0, .ref 55), (1, .int (iN (zp)))]) (st1 := [.int (iN (N)), .int (iN (0)), .ref 55]) (kr1 := (78, 76)) (h1 := zh) (Eq.trans (b := (some (29, [(0, .ref 55), (1, .int (iN (zp)))], [.int (zh.1 55 0), .int (iN (0)), .ref 55], (78, 76), zh) : Option am_C)) rfl (by simp only [q_nm.1, Int32.ofInt_add, Int32.ofInt_sub, Int32.ofInt_mul, Int32.ofInt_neg])) ?_
      refine wp_call (md1 := am_m_Model_plans) (As := [.ref 55, .int (iN (0)), .int (iN (N))]) (rest := []) (kr1 := (78, 76)) rfl (jm_plans _ (by omega) q_nm q_g (za := 0) (zn := N) (by omega)) ?_
      rintro _ zg1 ⟨rfl, q_f1, q_row1⟩
      have q_R1 : zRS zh zg1 := zRS_f q_f1 (fun c y => by simp only [List.mem_cons, List.not_mem_nil, or_false] at y ⊢; omega) (by decide)
      have q_nm1 := zRS_mm q_R1 q_nm
      refine wp_run (k := 5) (pc1 := 39) (l1 := [(0, .ref 55), (1, .int (iN (zp))), (2, .int (iN ((zPv G T N 0).1)))]) (st1 := [.int (iN (zp)), .ref 56, .int (iN (zp)), .ref 56]) (kr1 := (78, 76)) (h1 := zg1) rfl ?_
      refine wp_iald (f := zg1.1 56) (z := zp) (j := zp.toNat) (n := 98) (v := iN (G 0 zp)) rfl rfl (by omega) (by omega) (by decide) (zMm_v q_nm1 (by omega) (by omega) (by omega)) ?_
      refine wp_run (k := 2) (pc1 := 42) (l1 := [(0, .ref 55), (1, .int (iN (zp))), (2, .int (iN ((zPv G T N 0).1)))]) (st1 := [.int (iN ((G 0 zp) + (1))), .int (iN (zp)), .ref 56]) (kr1 := (78, 76)) (h1 := zg1) (Eq.trans (b := (some (42, [(0, .ref 55), (1, .int (iN (zp))), (2, .int (iN ((zPv G T N 0).1)))], [.int ((iN (G 0 zp)) + (iN (1))), .int (iN (zp)), .ref 56], (78, 76), zg1) : Option am_C)) rfl (by simp only [Int32.ofInt_add, Int32.ofInt_sub, Int32.ofInt_mul, Int32.ofInt_neg])) ?_
      refine wp_iast (z := zp) (j := zp.toNat) (n := 98) rfl (by decide) (by decide) rfl rfl (by omega) (by omega) (by decide) ?_
      have q_g2 : zGk N (zG1 G 0 zp (G 0 zp + 1)) S T := zGk_up q_g (by have y_v := (show vmax 0 = 99 from rfl); omega)
      have q_nm2 := zMm_wr (zw := 0) (zp := zp) (zv := G 0 zp + 1) q_N.2 q_nm1 (by omega) (by omega) (zj := zp) (by omega)
      refine wp_run (k := 4) (pc1 := 49) (l1 := [(0, .ref 55), (1, .int (iN (zp))), (2, .int (iN ((zPv G T N 0).1)))]) (st1 := [.int (iN (N)), .int (iN (0)), .ref 55]) (kr1 := (78, 76)) (h1 := am_wr zg1 56 (zp.toNat) (iN ((G 0 zp) + (1)))) (Eq.trans (b := (some (49, [(0, .ref 55), (1, .int (iN (zp))), (2, .int (iN ((zPv G T N 0).1)))], [.int ((am_wr zg1 56 (zp.toNat) (iN ((G 0 zp) + (1)))).1 55 0), .int (iN (0)), .ref 55], (78, 76), am_wr zg1 56 (zp.toNat) (iN ((G 0 zp) + (1)))) : Option am_C)) rfl (by simp only [(show (am_wr zg1 56 (zp.toNat) (iN ((G 0 zp) + (1)))).1 55 0 = iN N from q_nm2.1)]; try simp only [Int32.ofInt_add, Int32.ofInt_sub, Int32.ofInt_mul, Int32.ofInt_neg])) ?_
      refine wp_call (md1 := am_m_Model_plans) (As := [.ref 55, .int (iN (0)), .int (iN (N))]) (rest := []) (kr1 := (78, 76)) rfl (jm_plans _ (by omega) q_nm2 q_g2 (za := 0) (zn := N) (by omega)) ?_
      rintro _ zg2 ⟨rfl, q_f2, q_row2⟩
      have q_R2 : zRS _ zg2 := zRS_f q_f2 (fun c y => by simp only [List.mem_cons, List.not_mem_nil, or_false] at y ⊢; omega) (by decide)
      have q_nm3 := zRS_mm q_R2 q_nm2
      refine wp_run (k := 5) (pc1 := 59) (l1 := [(0, .ref 55), (1, .int (iN (zp))), (2, .int (iN ((zPv G T N 0).1))), (3, .int (iN ((zPv (zG1 G 0 zp (G 0 zp + 1)) T N 0).1)))]) (st1 := [.int (iN (zp)), .ref 56, .int (iN (zp)), .ref 56]) (kr1 := (78, 76)) (h1 := zg2) rfl ?_
      refine wp_iald (f := zg2.1 56) (z := zp) (j := zp.toNat) (n := 98) (v := iN (G 0 zp + 1)) rfl rfl (by omega) (by omega) (by decide) ((zMm_v q_nm3 (w := 0) (p := zp) (by omega) (by omega) (by omega)).trans (congrArg iN (zG1_eq _ _ _ _))) ?_
      refine wp_run (k := 2) (pc1 := 62) (l1 := [(0, .ref 55), (1, .int (iN (zp))), (2, .int (iN ((zPv G T N 0).1))), (3, .int (iN ((zPv (zG1 G 0 zp (G 0 zp + 1)) T N 0).1)))]) (st1 := [.int (iN ((G 0 zp + 1) - (1))), .int (iN (zp)), .ref 56]) (kr1 := (78, 76)) (h1 := zg2) (Eq.trans (b := (some (62, [(0, .ref 55), (1, .int (iN (zp))), (2, .int (iN ((zPv G T N 0).1))), (3, .int (iN ((zPv (zG1 G 0 zp (G 0 zp + 1)) T N 0).1)))], [.int ((iN (G 0 zp + 1)) - (iN (1))), .int (iN (zp)), .ref 56], (78, 76), zg2) : Option am_C)) rfl (by simp only [Int32.ofInt_add, Int32.ofInt_sub, Int32.ofInt_mul, Int32.ofInt_neg])) ?_
      refine wp_iast (z := zp) (j := zp.toNat) (n := 98) rfl (by decide) (by decide) rfl rfl (by omega) (by omega) (by decide) ?_
      refine wp_run (k := 3) (pc1 := 66) (l1 := [(0, .ref 55), (1, .int (iN (zp))), (2, .int (iN ((zPv G T N 0).1))), (3, .int (iN ((zPv (zG1 G 0 zp (G 0 zp + 1)) T N 0).1)))]) (st1 := [.int (iN (((zPv (zG1 G 0 zp (G 0 zp + 1)) T N 0).1) - ((zPv G T N 0).1)))]) (kr1 := (78, 76)) (h1 := am_wr zg2 56 (zp.toNat) (iN ((G 0 zp + 1) - (1)))) (Eq.trans (b := (some (66, [(0, .ref 55), (1, .int (iN (zp))), (2, .int (iN ((zPv G T N 0).1))), (3, .int (iN ((zPv (zG1 G 0 zp (G 0 zp + 1)) T N 0).1)))], [.int ((iN ((zPv (zG1 G 0 zp (G 0 zp + 1)) T N 0).1)) - (iN ((zPv G T N 0).1)))], (78, 76), am_wr zg2 56 (zp.toNat) (iN ((G 0 zp + 1) - (1)))) : Option am_C)) rfl (by simp only [Int32.ofInt_add, Int32.ofInt_sub, Int32.ofInt_mul, Int32.ofInt_neg])) ?_
      refine wp_ret (rv := some (.int (iN (((zPv (zG1 G 0 zp (G 0 zp + 1)) T N 0).1) - ((zPv G T N 0).1))))) rfl ?_
      refine ⟨?_, zRS_56 q_R1 q_R2 ?_⟩
      · rw [show zVmore N G T zp = ((zPv (zG1 G 0 zp (G 0 zp + 1)) T N 0).1) - ((zPv G T N 0).1) from if_neg (by omega)]
      · rw [show G 0 zp + 1 - 1 = G 0 zp by omega]; exact zMm_v q_nm (by omega) (by omega) (by omega)
    · refine wp_run (k := 1) (pc1 := 22) (l1 := [(0, .ref 55), (1, .int (iN (zp)))]) (st1 := [.int (iN (-10000))]) (kr1 := (78, 76)) (h1 := zh) rfl ?_
      refine wp_ret (rv := some (.int (iN (-10000)))) rfl ?_
      refine ⟨?_, zRS_0 _⟩
      rw [show zVmore N G T zp = -10000 from ?_]
      unfold zVmore
      (repeat' split) <;> first | rfl | omega | contradiction | (exfalso; omega) | (exfalso; rename_i y_x; exact absurd y_x.2.1 (by assumption)) | (exfalso; rename_i y_x; exact y_x ⟨by omega, by assumption, by omega⟩)
set_option maxRecDepth 20000 in
set_option maxHeartbeats 4000000 in
theorem jm_doesMake (zd : Nat) (q_d : 7 ≤ zd) {zh : am_H} {N : Int} {G : Int → Int → Int} {S T : Int} {zp zs : Int} (q_nm : zMm (zh.1 55) (zh.1 56) N G S T) (q_g : zGk N G S T) (q_p : 0 ≤ zp ∧ zp < N) (q_s : 0 ≤ zs ∧ zs ≤ 999) : am_wp zd am_m_Model_doesMakeBy 0 [(0, .ref 55), (1, .int (iN (zp))), (2, .int (iN (zs)))] [] (78, 76) zh (78, 76) (fun rv h' => rv = some (.int (iN (bI (0 < zMB (zG1 G 1 zp zs) T N zp) inferInstance))) ∧ zRS zh h') := by
  obtain ⟨zd, rfl⟩ : ∃ y_e, zd = y_e + 7 := ⟨zd - 7, by omega⟩
  have q_N := q_g.1
  refine wp_run (k := 3) (pc1 := 3) (l1 := [(0, .ref 55), (1, .int (iN (zp))), (2, .int (iN (zs)))]) (st1 := [.int (iN (zp)), .int (iN (1)), .ref 55]) (kr1 := (78, 76)) (h1 := zh) rfl ?_
  refine wp_call (md1 := am_m_Model_num) (As := [.ref 55, .int (iN (1)), .int (iN (zp))]) (rest := []) (kr1 := (78, 76)) rfl (jm_num _ (by omega) q_nm q_g (zw := 1) (zp := zp) (by omega) (by omega)) ?_
  rintro _ _ ⟨rfl, rfl⟩
  refine wp_run (k := 7) (pc1 := 16) (l1 := [(0, .ref 55), (1, .int (iN (zp))), (2, .int (iN (zs))), (3, .int (iN (G (1) (zp))))]) (st1 := [.int (iN (zs)), .int (iN ((16) + (zp))), .ref 56]) (kr1 := (78, 76)) (h1 := zh) (Eq.trans (b := (some (16, [(0, .ref 55), (1, .int (iN (zp))), (2, .int (iN (zs))), (3, .int (iN (G (1) (zp))))], [.int (iN (zs)), .int ((iN (16)) + (iN (zp))), .ref 56], (78, 76), zh) : Option am_C)) rfl (by simp only [Int32.ofInt_add, Int32.ofInt_sub, Int32.ofInt_mul, Int32.ofInt_neg])) ?_
  refine wp_iast (z := (16) + (zp)) (j := (16 + zp).toNat) (n := 98) rfl (by decide) (by decide) rfl rfl (by omega) (by omega) (by decide) ?_
  have q_g2 : zGk N (zG1 G 1 zp zs) S T := zGk_up q_g (by have y_v := (show vmax 1 = 999 from rfl); omega)
  have q_nm2 := zMm_wr (zw := 1) (zp := zp) (zv := zs) q_N.2 q_nm (by omega) (by omega) (zj := 16 + zp) (by omega)
  refine wp_run (k := 1) (pc1 := 18) (l1 := [(0, .ref 55), (1, .int (iN (zp))), (2, .int (iN (zs))), (3, .int (iN (G (1) (zp))))]) (st1 := [.ref 55]) (kr1 := (78, 76)) (h1 := am_wr zh 56 ((16 + zp).toNat) (iN (zs))) rfl ?_
  refine wp_call (md1 := am_m_Model_thePlan) (As := [.ref 55]) (rest := []) (kr1 := (78, 76)) rfl (jm_thePlan _ (by omega) q_nm2 q_g2) ?_
  rintro _ zg2 ⟨rfl, q_f2, q_s2, q_tm2⟩
  have q_R2 : zRS _ zg2 := zRS_s q_f2 (fun c y => by simp only [List.mem_cons, List.not_mem_nil, or_false] at y ⊢; omega) (fun zs y1 _ _ => q_s2 zs y1) (k1 := 20) (k2 := 20) (k3 := 20) (by decide)
  have q_tk := zTookM_k q_tm2
  have y_mh := zHk_b (zMB_hk (T := T) q_g2) zp (by omega)
  refine wp_run (k := 7) (pc1 := 31) (l1 := [(0, .ref 55), (1, .int (iN (zp))), (2, .int (iN (zs))), (3, .int (iN (G (1) (zp))))]) (st1 := [.int (iN (G (1) (zp))), .int (iN ((16) + (zp))), .ref 56]) (kr1 := (78, 76)) (h1 := zg2) (Eq.trans (b := (some (31, [(0, .ref 55), (1, .int (iN (zp))), (2, .int (iN (zs))), (3, .int (iN (G (1) (zp))))], [.int (iN (G (1) (zp))), .int ((iN (16)) + (iN (zp))), .ref 56], (78, 76), zg2) : Option am_C)) rfl (by simp only [Int32.ofInt_add, Int32.ofInt_sub, Int32.ofInt_mul, Int32.ofInt_neg])) ?_
  refine wp_iast (z := (16) + (zp)) (j := (16 + zp).toNat) (n := 98) rfl (by decide) (by decide) rfl rfl (by omega) (by omega) (by decide) ?_
  refine wp_run (k := 3) (pc1 := 37) (l1 := [(0, .ref 55), (1, .int (iN (zp))), (2, .int (iN (zs))), (3, .int (iN (G (1) (zp))))]) (st1 := [.int (iN (zp)), .ref 66]) (kr1 := (78, 76)) (h1 := am_wr zg2 56 ((16 + zp).toNat) (iN (G (1) (zp)))) rfl ?_
  refine wp_iald (f := (am_wr zg2 56 ((16 + zp).toNat) (iN (G (1) (zp)))).1 66) (z := zp) (j := zp.toNat) (n := 16) (v := iN (zMB (zG1 G 1 zp zs) T N zp)) rfl rfl (by omega) (by omega) (by decide) ((congrFun (am_wr_ne (by decide)) _).trans (q_tk.2.2.2 zp (by omega) (by omega))) ?_
  refine wp_le0 (a := zMB (zG1 G 1 zp zs) T N zp) rfl (by omega) (fun b_38 => ?_) (fun b_38 => ?_)
  · refine wp_run (k := 1) (pc1 := 46) (l1 := [(0, .ref 55), (1, .int (iN (zp))), (2, .int (iN (zs))), (3, .int (iN (G (1) (zp))))]) (st1 := [.int (iN (0))]) (kr1 := (78, 76)) (h1 := am_wr zg2 56 ((16 + zp).toNat) (iN (G (1) (zp)))) rfl ?_
    refine wp_ret (rv := some (.int (iN (0)))) rfl ?_
    exact ⟨by rw [show bI (0 < zMB (zG1 G 1 zp zs) T N zp) inferInstance = 0 from if_neg (by omega)], zRS_56 (zRS_0 _) q_R2 (zMm_v q_nm (by omega) (by omega) (by omega))⟩
  · refine wp_run (k := 2) (pc1 := 46) (l1 := [(0, .ref 55), (1, .int (iN (zp))), (2, .int (iN (zs))), (3, .int (iN (G (1) (zp))))]) (st1 := [.int (iN (1))]) (kr1 := (78, 76)) (h1 := am_wr zg2 56 ((16 + zp).toNat) (iN (G (1) (zp)))) rfl ?_
    refine wp_ret (rv := some (.int (iN (1)))) rfl ?_
    exact ⟨by rw [show bI (0 < zMB (zG1 G 1 zp zs) T N zp) inferInstance = 1 from if_pos (by omega)], zRS_56 (zRS_0 _) q_R2 (zMm_v q_nm (by omega) (by omega) (by omega))⟩
set_option maxRecDepth 20000 in
set_option maxHeartbeats 4000000 in
theorem jl_mkeeps (zd : Nat) (q_d : 8 ≤ zd) {zh : am_H} {N : Int} {G : Int → Int → Int} {S T : Int} {zp zR : Int} (q_nm : zMm (zh.1 55) (zh.1 56) N G S T) (q_g : zGk N G S T) (q_p : 0 ≤ zp ∧ zp < N) {zQ : Option Value → am_H → Prop} (zk2 : ∀ (zg : am_H) (zr : Int), zRS zh zg → zr = zR → zQ (some (.int (iN zr))) zg) : ∀ (z_n : Nat) (zg : am_H) (zi : Int) (zn : Int) (zf : Nat) (q_R : zRS zh zg) (q_i : 0 ≤ zi ∧ zi < zn ∧ zn ≤ 1000) (q_w : zn - zi ≤ zPw zf) (q_z : zKe G T N zp zf zi (zn - 1) = zR), zn - zi < (z_n : Int) → am_wp zd am_m_Model_keeps 38 [(0, .ref 55), (1, .int (iN (zp))), (2, .int (iN (zi))), (3, .int (iN (zn)))] [] (78, 76) zg (78, 76) zQ := by
  obtain ⟨zd, rfl⟩ : ∃ y_e, zd = y_e + 8 := ⟨zd - 8, by omega⟩
  intro z_n
  induction z_n with
  | zero => intro zg zi zn zf q_R q_i q_w q_z q_m; omega
  | succ z_n z_ih =>
    intro zg zi zn zf q_R q_i q_w q_z q_m
    have q_N := q_g.1
    refine wp_run (k := 4) (pc1 := 42) (l1 := [(0, .ref 55), (1, .int (iN (zp))), (2, .int (iN (zi))), (3, .int (iN (zn)))]) (st1 := [.int (iN (1)), .int (iN ((zn) - (zi)))]) (kr1 := (78, 76)) (h1 := zg) (Eq.trans (b := (some (42, [(0, .ref 55), (1, .int (iN (zp))), (2, .int (iN (zi))), (3, .int (iN (zn)))], [.int (iN (1)), .int ((iN (zn)) - (iN (zi)))], (78, 76), zg) : Option am_C)) rfl (by simp only [Int32.ofInt_add, Int32.ofInt_sub, Int32.ofInt_mul, Int32.ofInt_neg])) ?_
    refine wp_le (a := (zn) - (zi)) (b := 1) rfl (by omega) (by omega) (fun b_42 => ?_) (fun b_42 => ?_)
    · refine wp_run (k := 1) (pc1 := 75) (l1 := [(0, .ref 55), (1, .int (iN (zp))), (2, .int (iN (zi))), (3, .int (iN (zn)))]) (st1 := [.int (iN (zi))]) (kr1 := (78, 76)) (h1 := zg) rfl ?_
      refine wp_ret (rv := some (.int (iN (zi)))) rfl ?_
      refine zk2 zg _ q_R ?_
      rw [← q_z]
      cases zf with
      | zero => rfl
      | succ zf => exact (if_neg (by omega)).symm
    · refine wp_run (k := 4) (pc1 := 49) (l1 := [(0, .ref 55), (1, .int (iN (zp))), (2, .int (iN (zi))), (3, .int (iN (zn)))]) (st1 := [.int (iN (2)), .int (iN ((zi) + (zn)))]) (kr1 := (78, 76)) (h1 := zg) (Eq.trans (b := (some (49, [(0, .ref 55), (1, .int (iN (zp))), (2, .int (iN (zi))), (3, .int (iN (zn)))], [.int (iN (2)), .int ((iN (zi)) + (iN (zn)))], (78, 76), zg) : Option am_C)) rfl (by simp only [Int32.ofInt_add, Int32.ofInt_sub, Int32.ofInt_mul, Int32.ofInt_neg])) ?_
      refine wp_divn (a := (zi) + (zn)) (b := 2) rfl (by omega) (by omega) ?_
      obtain ⟨zm, y_m⟩ : ∃ zm : Int, (zi + zn) / 2 = zm := ⟨_, rfl⟩
      rw [show ((zi) + (zn)) / (2) = zm by rw [← y_m]]
      refine wp_run (k := 4) (pc1 := 56) (l1 := [(0, .ref 55), (1, .int (iN (zp))), (2, .int (iN (zi))), (3, .int (iN (zn))), (4, .int (iN (zm)))]) (st1 := [.int (iN (zm)), .int (iN (zp)), .ref 55]) (kr1 := (78, 76)) (h1 := zg) rfl ?_
      refine wp_call (md1 := am_m_Model_doesMakeBy) (As := [.ref 55, .int (iN (zp)), .int (iN (zm))]) (rest := []) (kr1 := (78, 76)) rfl (jm_doesMake (zp := zp) (zs := zm) _ (by omega) (zRS_mm q_R q_nm) q_g q_p (by omega)) ?_
      rintro _ zg1 ⟨rfl, q_R1a⟩
      have q_R1 := zRS_t q_R q_R1a
      refine wp_eqb rfl (fun b_59 => ?_) (fun b_59 => ?_)
      · refine wp_run (k := 3) (pc1 := 38) (l1 := [(0, .ref 55), (1, .int (iN (zp))), (2, .int (iN (zi))), (3, .int (iN (zm))), (4, .int (iN (zm)))]) (st1 := []) (kr1 := (78, 76)) (h1 := zg1) rfl ?_
        refine wp_drop [4] (l := [(0, .ref 55), (1, .int (iN (zp))), (2, .int (iN (zi))), (3, .int (iN (zm)))]) rfl rfl ?_
        obtain ⟨zf1, y_k⟩ : ∃ y, zf = y + 1 := ⟨zf - 1, by cases zf with | zero => exact absurd q_w (by show ¬ zn - zi ≤ (1 : Int); omega) | succ zf => rfl⟩
        subst y_k
        have y_w : zPw (zf1 + 1) = 2 * zPw zf1 := rfl
        refine z_ih zg1 (zi) (zm) zf1 q_R1 (by omega) (by omega) ?_ (by omega)
        rw [← q_z]
        show _ = (if zi < zn - 1 then (if 0 < zMB (zG1 G 1 zp ((zi + (zn - 1) + 1) / 2)) T N zp then zKe G T N zp zf1 ((zi + (zn - 1) + 1) / 2) (zn - 1) else zKe G T N zp zf1 zi ((zi + (zn - 1) + 1) / 2 - 1)) else zi)
        rw [show zi + (zn - 1) + 1 = zi + zn by omega, y_m, if_pos (by omega), if_neg b_59]
      · refine wp_run (k := 4) (pc1 := 38) (l1 := [(0, .ref 55), (1, .int (iN (zp))), (2, .int (iN (zm))), (3, .int (iN (zn))), (4, .int (iN (zm)))]) (st1 := []) (kr1 := (78, 76)) (h1 := zg1) rfl ?_
        refine wp_drop [4] (l := [(0, .ref 55), (1, .int (iN (zp))), (2, .int (iN (zm))), (3, .int (iN (zn)))]) rfl rfl ?_
        obtain ⟨zf1, y_k⟩ : ∃ y, zf = y + 1 := ⟨zf - 1, by cases zf with | zero => exact absurd q_w (by show ¬ zn - zi ≤ (1 : Int); omega) | succ zf => rfl⟩
        subst y_k
        have y_w : zPw (zf1 + 1) = 2 * zPw zf1 := rfl
        refine z_ih zg1 (zm) (zn) zf1 q_R1 (by omega) (by omega) ?_ (by omega)
        rw [← q_z]
        show _ = (if zi < zn - 1 then (if 0 < zMB (zG1 G 1 zp ((zi + (zn - 1) + 1) / 2)) T N zp then zKe G T N zp zf1 ((zi + (zn - 1) + 1) / 2) (zn - 1) else zKe G T N zp zf1 zi ((zi + (zn - 1) + 1) / 2 - 1)) else zi)
        rw [show zi + (zn - 1) + 1 = zi + zn by omega, y_m, if_pos (by omega), if_pos b_59]
set_option maxRecDepth 20000 in
set_option maxHeartbeats 4000000 in
theorem jR_keeps (zd : Nat) (q_d : 8 ≤ zd) {zh : am_H} {N : Int} {G : Int → Int → Int} {S T : Int} {zp : Int} (q_nm : zMm (zh.1 55) (zh.1 56) N G S T) (q_g : zGk N G S T) (q_zpr : -2147483648 ≤ zp ∧ zp < 2147483648) : am_wp zd am_m_Model_keeps 0 [(0, .ref 55), (1, .int (iN (zp)))] [] (78, 76) zh (78, 76) (fun rv h' => rv = some (.int (iN (zVkeep N G T zp))) ∧ zRS zh h') := by
  obtain ⟨zd, rfl⟩ : ∃ y_e, zd = y_e + 8 := ⟨zd - 8, by omega⟩
  have q_N := q_g.1
  refine wp_run (k := 2) (pc1 := 2) (l1 := [(0, .ref 55), (1, .int (iN (zp)))]) (st1 := [.int (iN (zp)), .ref 55]) (kr1 := (78, 76)) (h1 := zh) rfl ?_
  refine wp_call (md1 := am_m_Model_isPeriod) (As := [.ref 55, .int (iN (zp))]) (rest := []) (kr1 := (78, 76)) rfl (jm_isPeriod _ (by omega) q_nm q_g (zp := zp) (by omega)) ?_
  rintro _ _ ⟨rfl, rfl⟩
  refine wp_neb rfl (fun b_5 => ?_) (fun b_5 => ?_)
  · refine wp_run (k := 1) (pc1 := 11) (l1 := [(0, .ref 55), (1, .int (iN (zp)))]) (st1 := [.ref 55]) (kr1 := (78, 76)) (h1 := zh) rfl ?_
    refine wp_call (md1 := am_m_Model_thePlan) (As := [.ref 55]) (rest := []) (kr1 := (78, 76)) rfl (jm_thePlan _ (by omega) q_nm q_g) ?_
    rintro _ zg1 ⟨rfl, q_f1, q_s1, q_tm1⟩
    have q_R1 : zRS zh zg1 := zRS_s q_f1 (fun c y => by simp only [List.mem_cons, List.not_mem_nil, or_false] at y ⊢; omega) (fun zs y1 _ _ => q_s1 zs y1) (k1 := 20) (k2 := 20) (k3 := 20) (by decide)
    have q_nm1 := zRS_mm q_R1 q_nm
    have q_tk := zTookM_k q_tm1
    have y_K := zIsN_le q_g q_tk.1
    have y_mhk := zMB_hk (T := T) q_g
    refine wp_run (k := 3) (pc1 := 19) (l1 := [(0, .ref 55), (1, .int (iN (zp)))]) (st1 := [.ref 66]) (kr1 := (78, 76)) (h1 := zg1) rfl ?_
    have y_mk := zHk_b y_mhk zp (by omega)
    refine wp_run (k := 1) (pc1 := 20) (l1 := [(0, .ref 55), (1, .int (iN (zp)))]) (st1 := [.int (iN (zp)), .ref 66]) (kr1 := (78, 76)) (h1 := zg1) rfl ?_
    refine wp_iald (f := zg1.1 66) (z := zp) (j := (zp).toNat) (n := 16) (v := iN (zMB G T N (zp))) rfl rfl (by omega) (by omega) (by decide) (q_tk.2.2.2 (zp) (by omega) (by omega)) ?_
    refine wp_ne0 (a := zMB G T N (zp)) rfl (by omega) (fun b_21 => ?_) (fun b_21 => ?_)
    · refine wp_run (k := 3) (pc1 := 30) (l1 := [(0, .ref 55), (1, .int (iN (zp)))]) (st1 := [.int (iN (zp)), .int (iN (1)), .ref 55]) (kr1 := (78, 76)) (h1 := zg1) rfl ?_
      refine wp_call (md1 := am_m_Model_num) (As := [.ref 55, .int (iN (1)), .int (iN (zp))]) (rest := []) (kr1 := (78, 76)) rfl (jm_num _ (by omega) q_nm1 q_g (zw := 1) (zp := zp) (by omega) (by omega)) ?_
      rintro _ _ ⟨rfl, rfl⟩
      have y_G := q_g.2.1 1 zp (by omega) (by omega) (by omega) (by omega)
      have y_v1 := (show vmax 1 = 999 from rfl)
      refine wp_run (k := 3) (pc1 := 38) (l1 := [(0, .ref 55), (1, .int (iN (zp))), (2, .int (iN (G (1) (zp)))), (3, .int (iN (1000)))]) (st1 := []) (kr1 := (78, 76)) (h1 := zg1) rfl ?_
      refine jl_mkeeps (zh := zh) _ (by omega) q_nm q_g (by omega) (fun zg zr y1 y2 => ⟨?_, y1⟩) 1001 zg1 (G 1 zp) 1000 10 q_R1 (by omega) (by show (1000 : Int) - G 1 zp ≤ 1024; omega) rfl (by omega)
      rw [y2, show zVkeep N G T zp = _ from (if_neg (by omega)).trans (if_neg (by omega))]
      rfl
    · refine wp_run (k := 1) (pc1 := 26) (l1 := [(0, .ref 55), (1, .int (iN (zp)))]) (st1 := [.int (iN (-2))]) (kr1 := (78, 76)) (h1 := zg1) rfl ?_
      refine wp_ret (rv := some (.int (iN (-2)))) rfl ?_
      refine ⟨?_, q_R1⟩
      rw [show zVkeep N G T zp = -2 from ?_]
      unfold zVkeep
      (repeat' split) <;> first | rfl | omega | contradiction | (exfalso; omega) | (exfalso; rename_i y_x; exact absurd y_x.2.1 (by assumption)) | (exfalso; rename_i y_x; exact y_x ⟨by omega, by assumption, by omega⟩)
  · refine wp_run (k := 1) (pc1 := 9) (l1 := [(0, .ref 55), (1, .int (iN (zp)))]) (st1 := [.int (iN (-1))]) (kr1 := (78, 76)) (h1 := zh) rfl ?_
    refine wp_ret (rv := some (.int (iN (-1)))) rfl ?_
    refine ⟨?_, zRS_0 _⟩
    rw [show zVkeep N G T zp = -1 from ?_]
    unfold zVkeep
    (repeat' split) <;> first | rfl | omega | contradiction | (exfalso; omega) | (exfalso; rename_i y_x; exact absurd y_x.2.1 (by assumption)) | (exfalso; rename_i y_x; exact y_x ⟨by omega, by assumption, by omega⟩)
