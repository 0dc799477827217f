/-! THE REFERENCE's rules -/
set_option maxRecDepth 20000 in
set_option maxHeartbeats 4000000 in
theorem jl_next (zd : Nat) (q_d : 1 ≤ zd) {zh : am_H} {N : Int} {G : Int → Int → Int} {S T : Int} {zp zr : Int} (q_nm : zMm (zh.1 55) (zh.1 56) N G S T) (q_g : zGk N G S T) {zQ : Option Value → am_H → Prop} (zk : ∀ zv : Int, zv = zr → zQ (some (.int (iN zv))) zh) : ∀ (z_n : Nat) (zi : Int) (q_i : 0 ≤ zi ∧ zi ≤ N) (q_z : zNx N G zi = zr), N - zi < (z_n : Int) → am_wp zd am_m_Model_nextDemand 2 [(0, .ref 55), (1, .int (iN (zp))), (2, .int (iN (zi)))] [] (78, 76) zh (78, 76) zQ := by
  obtain ⟨zd, rfl⟩ : ∃ y_e, zd = y_e + 1 := ⟨zd - 1, by omega⟩
  intro z_n
  induction z_n with
  | zero => intro zi q_i q_z q_m; omega
  | succ z_n z_ih =>
    intro zi q_i q_z q_m
    have q_N := q_g.1
    refine wp_run (k := 3) (pc1 := 7) (l1 := [(0, .ref 55), (1, .int (iN (zp))), (2, .int (iN (zi)))]) (st1 := [.int (iN (N)), .int (iN (zi))]) (kr1 := (78, 76)) (h1 := zh) (Eq.trans (b := (some (7, [(0, .ref 55), (1, .int (iN (zp))), (2, .int (iN (zi)))], [.int (zh.1 55 0), .int (iN (zi))], (78, 76), zh) : Option am_C)) rfl (by simp only [q_nm.1, Int32.ofInt_add, Int32.ofInt_sub, Int32.ofInt_mul, Int32.ofInt_neg])) ?_
    refine wp_ge (a := zi) (b := N) rfl (by omega) (by omega) (fun b_7 => ?_) (fun b_7 => ?_)
    · refine wp_run (k := 1) (pc1 := 26) (l1 := [(0, .ref 55), (1, .int (iN (zp))), (2, .int (iN (zi)))]) (st1 := [.int (iN (zi))]) (kr1 := (78, 76)) (h1 := zh) rfl ?_
      refine wp_ret (rv := some (.int (iN (zi)))) rfl ?_
      refine zk _ ?_
      rw [← q_z]
      by_cases y : N ≤ zi
      · rw [zNx_0 y]
      · rw [zNx_1 (by omega)]
    · have y_0 := q_g.2.1 0 zi (by omega) (by omega) (by omega) (by omega)
      have y_v0 := (show vmax 0 = 99 from rfl)
      refine wp_run (k := 3) (pc1 := 13) (l1 := [(0, .ref 55), (1, .int (iN (zp))), (2, .int (iN (zi)))]) (st1 := [.int (iN (zi)), .int (iN (0)), .ref 55]) (kr1 := (78, 76)) (h1 := zh) rfl ?_
      refine wp_call (md1 := am_m_Model_num) (As := [.ref 55, .int (iN (0)), .int (iN (zi))]) (rest := []) (kr1 := (78, 76)) rfl (jm_num _ (by omega) q_nm q_g (zw := 0) (zp := zi) (by omega) (by omega)) ?_
      rintro _ _ ⟨rfl, rfl⟩
      refine wp_ne0 (a := G (0) (zi)) rfl (by omega) (fun b_16 => ?_) (fun b_16 => ?_)
      · refine wp_run (k := 1) (pc1 := 26) (l1 := [(0, .ref 55), (1, .int (iN (zp))), (2, .int (iN (zi)))]) (st1 := [.int (iN (zi))]) (kr1 := (78, 76)) (h1 := zh) rfl ?_
        refine wp_ret (rv := some (.int (iN (zi)))) rfl ?_
        refine zk _ ?_
        rw [← q_z]
        by_cases y : N ≤ zi
        · rw [zNx_0 y]
        · rw [zNx_1 (by omega)]
      · refine wp_run (k := 2) (pc1 := 2) (l1 := [(0, .ref 55), (1, .int (iN (zp))), (2, .int (iN ((zi) + 1)))]) (st1 := []) (kr1 := (78, 76)) (h1 := zh) (Eq.trans (b := (some (2, [(0, .ref 55), (1, .int (iN (zp))), (2, .int ((iN (zi)) + iN (1)))], [], (78, 76), zh) : Option am_C)) rfl (by simp only [Int32.ofInt_add, Int32.ofInt_sub, Int32.ofInt_mul, Int32.ofInt_neg])) ?_
        exact z_ih (zi + 1) (by omega) (by rw [← q_z]; exact (zNx_2 (by omega) (by omega)).symm) (by omega)
set_option maxRecDepth 20000 in
set_option maxHeartbeats 4000000 in
theorem jm_next (zd : Nat) (q_d : 1 ≤ zd) {zh : am_H} {N : Int} {G : Int → Int → Int} {S T : Int} {zp : Int} (q_nm : zMm (zh.1 55) (zh.1 56) N G S T) (q_g : zGk N G S T) (q_p : 0 ≤ zp ∧ zp ≤ N) : am_wp zd am_m_Model_nextDemand 0 [(0, .ref 55), (1, .int (iN (zp)))] [] (78, 76) zh (78, 76) (fun rv h' => rv = some (.int (iN (zNx N G zp))) ∧ zh = h') := by
  obtain ⟨zd, rfl⟩ : ∃ y_e, zd = y_e + 1 := ⟨zd - 1, by omega⟩
  have q_N := q_g.1
  refine wp_run (k := 2) (pc1 := 2) (l1 := [(0, .ref 55), (1, .int (iN (zp))), (2, .int (iN (zp)))]) (st1 := []) (kr1 := (78, 76)) (h1 := zh) rfl ?_
  exact jl_next _ (by omega) q_nm q_g (fun zv q_v => ⟨by rw [q_v], rfl⟩) 20 zp (by omega) rfl (by omega)
set_option maxRecDepth 20000 in
set_option maxHeartbeats 4000000 in
theorem jm_takes (zd : Nat) (q_d : 3 ≤ zd) {zh : am_H} {N : Int} {G : Int → Int → Int} {S T : Int} {zr zn za zb : Int} (q_nm : zMm (zh.1 55) (zh.1 56) N G S T) (q_g : zGk N G S T) (q_0 : 0 ≤ za ∧ za ≤ zb ∧ zb + 1 < N) (q_r : 0 ≤ zr ∧ zr ≤ 3) (q_n : -2147483648 ≤ zn ∧ zn < 2147483648) : am_wp zd am_m_Model_takesNext 0 [(0, .ref 55), (1, .int (iN (zr))), (2, .int (iN (zn))), (3, .int (iN (za))), (4, .int (iN (zb)))] [] (78, 76) zh (78, 76) (fun rv h' => rv = some (.int (iN (bI (zTk G zr zn za zb) inferInstance))) ∧ zh = h') := by
  obtain ⟨zd, rfl⟩ : ∃ y_e, zd = y_e + 3 := ⟨zd - 3, by omega⟩
  have q_N := q_g.1
  have y_1 := q_g.2.1 1 za (by omega) (by omega) (by omega) (by omega)
  have y_v1 := (show vmax 1 = 999 from rfl)
  have y_h1 := zHe_rg q_g (a := za) (b := zb) (by omega) (by omega) (by omega)
  have y_h2 := zHe_rg q_g (a := za) (b := zb + 1) (by omega) (by omega) (by omega)
  have y_m1 := zmul_rg (x := G 1 za + zHe G za (zb + 1)) (X := 2600000) (y := zb - za + 1) (Y := 17) (by omega) (by omega)
  have y_m2 := zmul_rg (x := G 1 za + zHe G za zb) (X := 2600000) (y := zb - za + 2) (Y := 18) (by omega) (by omega)
  have y_0 := q_g.2.1 0 (zb + 1) (by omega) (by omega) (by omega) (by omega)
  have y_v0 := (show vmax 0 = 99 from rfl)
  refine wp_run (k := 1) (pc1 := 1) (l1 := [(0, .ref 55), (1, .int (iN (zr))), (2, .int (iN (zn))), (3, .int (iN (za))), (4, .int (iN (zb)))]) (st1 := [.int (iN (zr))]) (kr1 := (78, 76)) (h1 := zh) rfl ?_
  rcases (show zr = 0 ∨ zr = 1 ∨ zr = 2 ∨ (zr < 0 ∨ 2 < zr) by omega) with y_sw | y_sw | y_sw | y_sw
  · refine wp_swc (b := 0) (tg := 28) y_sw rfl (by decide) ?_
    refine wp_run (k := 5) (pc1 := 34) (l1 := [(0, .ref 55), (1, .int (iN (zr))), (2, .int (iN (zn))), (3, .int (iN (za))), (4, .int (iN (zb)))]) (st1 := [.int (iN ((zb) + (1))), .int (iN (0)), .ref 55]) (kr1 := (78, 76)) (h1 := zh) (Eq.trans (b := (some (34, [(0, .ref 55), (1, .int (iN (zr))), (2, .int (iN (zn))), (3, .int (iN (za))), (4, .int (iN (zb)))], [.int ((iN (zb)) + (iN (1))), .int (iN (0)), .ref 55], (78, 76), zh) : Option am_C)) rfl (by simp only [Int32.ofInt_add, Int32.ofInt_sub, Int32.ofInt_mul, Int32.ofInt_neg])) ?_
    refine wp_call (md1 := am_m_Model_num) (As := [.ref 55, .int (iN (0)), .int (iN ((zb) + (1)))]) (rest := []) (kr1 := (78, 76)) rfl (jm_num _ (by omega) q_nm q_g (zw := 0) (zp := (zb) + (1)) (by omega) (by omega)) ?_
    rintro _ _ ⟨rfl, rfl⟩
    refine wp_ne0 (a := G (0) ((zb) + (1))) rfl (by omega) (fun b_37 => ?_) (fun b_37 => ?_)
    · refine wp_run (k := 1) (pc1 := 45) (l1 := [(0, .ref 55), (1, .int (iN (zr))), (2, .int (iN (zn))), (3, .int (iN (za))), (4, .int (iN (zb)))]) (st1 := [.int (iN (0))]) (kr1 := (78, 76)) (h1 := zh) rfl ?_
      refine wp_ret (rv := some (.int (iN (0)))) rfl ?_
      exact ⟨by rw [show bI (zTk G zr zn za zb) inferInstance = 0 from if_neg (by unfold zTk; omega)], rfl⟩
    · refine wp_run (k := 2) (pc1 := 45) (l1 := [(0, .ref 55), (1, .int (iN (zr))), (2, .int (iN (zn))), (3, .int (iN (za))), (4, .int (iN (zb)))]) (st1 := [.int (iN (1))]) (kr1 := (78, 76)) (h1 := zh) rfl ?_
      refine wp_ret (rv := some (.int (iN (1)))) rfl ?_
      exact ⟨by rw [show bI (zTk G zr zn za zb) inferInstance = 1 from if_pos (by unfold zTk; omega)], rfl⟩
  · refine wp_swc (b := 1) (tg := 46) y_sw rfl (by decide) ?_
    refine wp_run (k := 6) (pc1 := 53) (l1 := [(0, .ref 55), (1, .int (iN (zr))), (2, .int (iN (zn))), (3, .int (iN (za))), (4, .int (iN (zb)))]) (st1 := [.int (iN (zn)), .int (iN (((zb) + (1)) - (za)))]) (kr1 := (78, 76)) (h1 := zh) (Eq.trans (b := (some (53, [(0, .ref 55), (1, .int (iN (zr))), (2, .int (iN (zn))), (3, .int (iN (za))), (4, .int (iN (zb)))], [.int (iN (zn)), .int (((iN (zb)) + (iN (1))) - (iN (za)))], (78, 76), zh) : Option am_C)) rfl (by simp only [Int32.ofInt_add, Int32.ofInt_sub, Int32.ofInt_mul, Int32.ofInt_neg])) ?_
    refine wp_ge (a := ((zb) + (1)) - (za)) (b := zn) rfl (by omega) (by omega) (fun b_53 => ?_) (fun b_53 => ?_)
    · refine wp_run (k := 1) (pc1 := 61) (l1 := [(0, .ref 55), (1, .int (iN (zr))), (2, .int (iN (zn))), (3, .int (iN (za))), (4, .int (iN (zb)))]) (st1 := [.int (iN (0))]) (kr1 := (78, 76)) (h1 := zh) rfl ?_
      refine wp_ret (rv := some (.int (iN (0)))) rfl ?_
      exact ⟨by rw [show bI (zTk G zr zn za zb) inferInstance = 0 from if_neg (by unfold zTk; omega)], rfl⟩
    · refine wp_run (k := 2) (pc1 := 61) (l1 := [(0, .ref 55), (1, .int (iN (zr))), (2, .int (iN (zn))), (3, .int (iN (za))), (4, .int (iN (zb)))]) (st1 := [.int (iN (1))]) (kr1 := (78, 76)) (h1 := zh) rfl ?_
      refine wp_ret (rv := some (.int (iN (1)))) rfl ?_
      exact ⟨by rw [show bI (zTk G zr zn za zb) inferInstance = 1 from if_pos (by unfold zTk; omega)], rfl⟩
  · refine wp_swc (b := 2) (tg := 62) y_sw rfl (by decide) ?_
    refine wp_run (k := 3) (pc1 := 65) (l1 := [(0, .ref 55), (1, .int (iN (zr))), (2, .int (iN (zn))), (3, .int (iN (za))), (4, .int (iN (zb)))]) (st1 := [.int (iN (za)), .int (iN (1)), .ref 55]) (kr1 := (78, 76)) (h1 := zh) rfl ?_
    refine wp_call (md1 := am_m_Model_num) (As := [.ref 55, .int (iN (1)), .int (iN (za))]) (rest := []) (kr1 := (78, 76)) rfl (jm_num _ (by omega) q_nm q_g (zw := 1) (zp := za) (by omega) (by omega)) ?_
    rintro _ _ ⟨rfl, rfl⟩
    refine wp_run (k := 3) (pc1 := 72) (l1 := [(0, .ref 55), (1, .int (iN (zr))), (2, .int (iN (zn))), (3, .int (iN (za))), (4, .int (iN (zb)))]) (st1 := [.int (iN (zb)), .int (iN (za)), .ref 55, .int (iN (G (1) (za)))]) (kr1 := (78, 76)) (h1 := zh) rfl ?_
    refine wp_call (md1 := am_m_Model_held) (As := [.ref 55, .int (iN (za)), .int (iN (zb))]) (rest := [.int (iN (G (1) (za)))]) (kr1 := (78, 76)) rfl (jm_held _ (by omega) q_nm q_g (za := za) (zb := zb) (by omega)) ?_
    rintro _ _ ⟨rfl, rfl⟩
    refine wp_run (k := 5) (pc1 := 81) (l1 := [(0, .ref 55), (1, .int (iN (zr))), (2, .int (iN (zn))), (3, .int (iN (za))), (4, .int (iN (zb))), (5, .int (iN ((G (1) (za)) + (zHe G (za) (zb)))))]) (st1 := [.int (iN (za)), .int (iN (1)), .ref 55]) (kr1 := (78, 76)) (h1 := zh) (Eq.trans (b := (some (81, [(0, .ref 55), (1, .int (iN (zr))), (2, .int (iN (zn))), (3, .int (iN (za))), (4, .int (iN (zb))), (5, .int ((iN (G (1) (za))) + (iN (zHe G (za) (zb)))))], [.int (iN (za)), .int (iN (1)), .ref 55], (78, 76), zh) : Option am_C)) rfl (by simp only [Int32.ofInt_add, Int32.ofInt_sub, Int32.ofInt_mul, Int32.ofInt_neg])) ?_
    refine wp_call (md1 := am_m_Model_num) (As := [.ref 55, .int (iN (1)), .int (iN (za))]) (rest := []) (kr1 := (78, 76)) rfl (jm_num _ (by omega) q_nm q_g (zw := 1) (zp := za) (by omega) (by omega)) ?_
    rintro _ _ ⟨rfl, rfl⟩
    refine wp_run (k := 5) (pc1 := 90) (l1 := [(0, .ref 55), (1, .int (iN (zr))), (2, .int (iN (zn))), (3, .int (iN (za))), (4, .int (iN (zb))), (5, .int (iN ((G (1) (za)) + (zHe G (za) (zb)))))]) (st1 := [.int (iN ((zb) + (1))), .int (iN (za)), .ref 55, .int (iN (G (1) (za)))]) (kr1 := (78, 76)) (h1 := zh) (Eq.trans (b := (some (90, [(0, .ref 55), (1, .int (iN (zr))), (2, .int (iN (zn))), (3, .int (iN (za))), (4, .int (iN (zb))), (5, .int (iN ((G (1) (za)) + (zHe G (za) (zb)))))], [.int ((iN (zb)) + (iN (1))), .int (iN (za)), .ref 55, .int (iN (G (1) (za)))], (78, 76), zh) : Option am_C)) rfl (by simp only [Int32.ofInt_add, Int32.ofInt_sub, Int32.ofInt_mul, Int32.ofInt_neg])) ?_
    refine wp_call (md1 := am_m_Model_held) (As := [.ref 55, .int (iN (za)), .int (iN ((zb) + (1)))]) (rest := [.int (iN (G (1) (za)))]) (kr1 := (78, 76)) rfl (jm_held _ (by omega) q_nm q_g (za := za) (zb := (zb) + (1)) (by omega)) ?_
    rintro _ _ ⟨rfl, rfl⟩
    refine wp_run (k := 16) (pc1 := 114) (l1 := [(0, .ref 55), (1, .int (iN (zr))), (2, .int (iN (zn))), (3, .int (iN (za))), (4, .int (iN (zb))), (5, .int (iN ((G (1) (za)) + (zHe G (za) (zb))))), (6, .int (iN ((G (1) (za)) + (zHe G (za) ((zb) + (1))))))]) (st1 := [.int (iN (((G (1) (za)) + (zHe G (za) (zb))) * (((zb) - (za)) + (2)))), .int (iN (((G (1) (za)) + (zHe G (za) ((zb) + (1)))) * (((zb) - (za)) + (1))))]) (kr1 := (78, 76)) (h1 := zh) (Eq.trans (b := (some (114, [(0, .ref 55), (1, .int (iN (zr))), (2, .int (iN (zn))), (3, .int (iN (za))), (4, .int (iN (zb))), (5, .int (iN ((G (1) (za)) + (zHe G (za) (zb))))), (6, .int ((iN (G (1) (za))) + (iN (zHe G (za) ((zb) + (1))))))], [.int ((iN ((G (1) (za)) + (zHe G (za) (zb)))) * (((iN (zb)) - (iN (za))) + (iN (2)))), .int (((iN (G (1) (za))) + (iN (zHe G (za) ((zb) + (1))))) * (((iN (zb)) - (iN (za))) + (iN (1))))], (78, 76), zh) : Option am_C)) rfl (by simp only [Int32.ofInt_add, Int32.ofInt_sub, Int32.ofInt_mul, Int32.ofInt_neg])) ?_
    refine wp_gt (a := ((G (1) (za)) + (zHe G (za) ((zb) + (1)))) * (((zb) - (za)) + (1))) (b := ((G (1) (za)) + (zHe G (za) (zb))) * (((zb) - (za)) + (2))) rfl (by omega) (by omega) (fun b_114 => ?_) (fun b_114 => ?_)
    · refine wp_run (k := 1) (pc1 := 122) (l1 := [(0, .ref 55), (1, .int (iN (zr))), (2, .int (iN (zn))), (3, .int (iN (za))), (4, .int (iN (zb))), (5, .int (iN ((G (1) (za)) + (zHe G (za) (zb))))), (6, .int (iN ((G (1) (za)) + (zHe G (za) ((zb) + (1))))))]) (st1 := [.int (iN (0))]) (kr1 := (78, 76)) (h1 := zh) rfl ?_
      refine wp_ret (rv := some (.int (iN (0)))) rfl ?_
      exact ⟨by rw [show bI (zTk G zr zn za zb) inferInstance = 0 from if_neg (by unfold zTk; omega)], rfl⟩
    · refine wp_run (k := 2) (pc1 := 122) (l1 := [(0, .ref 55), (1, .int (iN (zr))), (2, .int (iN (zn))), (3, .int (iN (za))), (4, .int (iN (zb))), (5, .int (iN ((G (1) (za)) + (zHe G (za) (zb))))), (6, .int (iN ((G (1) (za)) + (zHe G (za) ((zb) + (1))))))]) (st1 := [.int (iN (1))]) (kr1 := (78, 76)) (h1 := zh) rfl ?_
      refine wp_ret (rv := some (.int (iN (1)))) rfl ?_
      exact ⟨by rw [show bI (zTk G zr zn za zb) inferInstance = 1 from if_pos (by unfold zTk; omega)], rfl⟩
  · refine wp_swd (lo := 0) (hi := 2) (tg := 123) rfl (by omega) y_sw ?_
    refine wp_run (k := 5) (pc1 := 129) (l1 := [(0, .ref 55), (1, .int (iN (zr))), (2, .int (iN (zn))), (3, .int (iN (za))), (4, .int (iN (zb)))]) (st1 := [.int (iN ((zb) + (1))), .int (iN (za)), .ref 55]) (kr1 := (78, 76)) (h1 := zh) (Eq.trans (b := (some (129, [(0, .ref 55), (1, .int (iN (zr))), (2, .int (iN (zn))), (3, .int (iN (za))), (4, .int (iN (zb)))], [.int ((iN (zb)) + (iN (1))), .int (iN (za)), .ref 55], (78, 76), zh) : Option am_C)) rfl (by simp only [Int32.ofInt_add, Int32.ofInt_sub, Int32.ofInt_mul, Int32.ofInt_neg])) ?_
    refine wp_call (md1 := am_m_Model_held) (As := [.ref 55, .int (iN (za)), .int (iN ((zb) + (1)))]) (rest := []) (kr1 := (78, 76)) rfl (jm_held _ (by omega) q_nm q_g (za := za) (zb := (zb) + (1)) (by omega)) ?_
    rintro _ _ ⟨rfl, rfl⟩
    refine wp_run (k := 3) (pc1 := 135) (l1 := [(0, .ref 55), (1, .int (iN (zr))), (2, .int (iN (zn))), (3, .int (iN (za))), (4, .int (iN (zb)))]) (st1 := [.int (iN (za)), .int (iN (1)), .ref 55, .int (iN (zHe G (za) ((zb) + (1))))]) (kr1 := (78, 76)) (h1 := zh) rfl ?_
    refine wp_call (md1 := am_m_Model_num) (As := [.ref 55, .int (iN (1)), .int (iN (za))]) (rest := [.int (iN (zHe G (za) ((zb) + (1))))]) (kr1 := (78, 76)) rfl (jm_num _ (by omega) q_nm q_g (zw := 1) (zp := za) (by omega) (by omega)) ?_
    rintro _ _ ⟨rfl, rfl⟩
    refine wp_gt (a := zHe G (za) ((zb) + (1))) (b := G (1) (za)) rfl (by omega) (by omega) (fun b_138 => ?_) (fun b_138 => ?_)
    · refine wp_run (k := 1) (pc1 := 146) (l1 := [(0, .ref 55), (1, .int (iN (zr))), (2, .int (iN (zn))), (3, .int (iN (za))), (4, .int (iN (zb)))]) (st1 := [.int (iN (0))]) (kr1 := (78, 76)) (h1 := zh) rfl ?_
      refine wp_ret (rv := some (.int (iN (0)))) rfl ?_
      exact ⟨by rw [show bI (zTk G zr zn za zb) inferInstance = 0 from if_neg (by unfold zTk; omega)], rfl⟩
    · refine wp_run (k := 2) (pc1 := 146) (l1 := [(0, .ref 55), (1, .int (iN (zr))), (2, .int (iN (zn))), (3, .int (iN (za))), (4, .int (iN (zb)))]) (st1 := [.int (iN (1))]) (kr1 := (78, 76)) (h1 := zh) rfl ?_
      refine wp_ret (rv := some (.int (iN (1)))) rfl ?_
      exact ⟨by rw [show bI (zTk G zr zn za zb) inferInstance = 1 from if_pos (by unfold zTk; omega)], rfl⟩
set_option maxRecDepth 20000 in
set_option maxHeartbeats 4000000 in
theorem jl_mrend (zd : Nat) (q_d : 4 ≤ zd) {zh : am_H} {N : Int} {G : Int → Int → Int} {S T : Int} {zr zn za : Int} (q_nm : zMm (zh.1 55) (zh.1 56) N G S T) (q_g : zGk N G S T) (q_r : 0 ≤ zr ∧ zr ≤ 3) (q_n : -2147483648 ≤ zn ∧ zn < 2147483648) (q_0 : 0 ≤ za ∧ za < N) {zQ : Option Value → am_H → Prop} (zk : am_wp zd am_m_Model_rules 61 [(0, .ref 55), (1, .int (iN (zr))), (2, .int (iN (zn))), (3, .int (iN (za))), (4, .int (iN (zEd N G zr zn za za)))] [] (78, 76) zh (78, 76) zQ) : ∀ (z_n : Nat) (zi : Int) (q_i : za ≤ zi ∧ zi < N) (q_z : zEd N G zr zn za zi = zEd N G zr zn za za), N - zi < (z_n : Int) → am_wp zd am_m_Model_rules 32 [(0, .ref 55), (1, .int (iN (zr))), (2, .int (iN (zn))), (3, .int (iN (za))), (4, .int (iN (zi)))] [] (78, 76) zh (78, 76) zQ := by
  obtain ⟨zd, rfl⟩ : ∃ y_e, zd = y_e + 4 := ⟨zd - 4, by omega⟩
  intro z_n
  induction z_n with
  | zero => intro zi q_i q_z q_m; omega
  | succ z_n z_ih =>
    intro zi q_i q_z q_m
    have q_N := q_g.1
    refine wp_run (k := 5) (pc1 := 40) (l1 := [(0, .ref 55), (1, .int (iN (zr))), (2, .int (iN (zn))), (3, .int (iN (za))), (4, .int (iN (zi)))]) (st1 := [.int (iN (N)), .int (iN ((zi) + (1)))]) (kr1 := (78, 76)) (h1 := zh) (Eq.trans (b := (some (40, [(0, .ref 55), (1, .int (iN (zr))), (2, .int (iN (zn))), (3, .int (iN (za))), (4, .int (iN (zi)))], [.int (zh.1 55 0), .int ((iN (zi)) + (iN (1)))], (78, 76), zh) : Option am_C)) rfl (by simp only [q_nm.1, Int32.ofInt_add, Int32.ofInt_sub, Int32.ofInt_mul, Int32.ofInt_neg])) ?_
    refine wp_ge (a := (zi) + (1)) (b := N) rfl (by omega) (by omega) (fun b_40 => ?_) (fun b_40 => ?_)
    · have y_e : zi = zEd N G zr zn za za := by
        rw [← q_z]
        refine (zEd_2 (fun z => ?_)).symm
        have z1 := z.1; omega
      rw [y_e]
      exact zk
    · refine wp_run (k := 5) (pc1 := 49) (l1 := [(0, .ref 55), (1, .int (iN (zr))), (2, .int (iN (zn))), (3, .int (iN (za))), (4, .int (iN (zi)))]) (st1 := [.int (iN (zi)), .int (iN (za)), .int (iN (zn)), .int (iN (zr)), .ref 55]) (kr1 := (78, 76)) (h1 := zh) rfl ?_
      refine wp_call (md1 := am_m_Model_takesNext) (As := [.ref 55, .int (iN (zr)), .int (iN (zn)), .int (iN (za)), .int (iN (zi))]) (rest := []) (kr1 := (78, 76)) rfl (jm_takes _ (by omega) q_nm q_g (zr := zr) (zn := zn) (za := za) (zb := zi) (by omega) q_r q_n) ?_
      rintro _ _ ⟨rfl, rfl⟩
      refine wp_eqb rfl (fun b_52 => ?_) (fun b_52 => ?_)
      · have y_e : zi = zEd N G zr zn za za := by
          rw [← q_z]
          refine (zEd_2 (fun z => ?_)).symm
          exact b_52 z.2
        rw [y_e]
        exact zk
      · refine wp_run (k := 2) (pc1 := 32) (l1 := [(0, .ref 55), (1, .int (iN (zr))), (2, .int (iN (zn))), (3, .int (iN (za))), (4, .int (iN ((zi) + 1)))]) (st1 := []) (kr1 := (78, 76)) (h1 := zh) (Eq.trans (b := (some (32, [(0, .ref 55), (1, .int (iN (zr))), (2, .int (iN (zn))), (3, .int (iN (za))), (4, .int ((iN (zi)) + iN (1)))], [], (78, 76), zh) : Option am_C)) rfl (by simp only [Int32.ofInt_add, Int32.ofInt_sub, Int32.ofInt_mul, Int32.ofInt_neg])) ?_
        exact z_ih (zi + 1) (by omega) (by rw [← q_z]; exact (zEd_1 (by omega) b_52).symm) (by omega)
set_option maxRecDepth 20000 in
set_option maxHeartbeats 4000000 in
theorem jl_mrules (zd : Nat) (q_d : 5 ≤ zd) {zh : am_H} {N : Int} {G : Int → Int → Int} {S T : Int} {zr zn : Int} {zU : Int × Int × Int32} (q_nm : zMm (zh.1 55) (zh.1 56) N G S T) (q_g : zGk N G S T) (q_r : 0 ≤ zr ∧ zr ≤ 3) (q_n : -2147483648 ≤ zn ∧ zn < 2147483648) {zQ : Option Value → am_H → Prop} (zk : ∀ zg : am_H, am_fr [55] zh zg → (∀ zs : Nat, zs ≠ 26 → zs ≠ 27 → zs ≠ 28 → zg.1 55 zs = zh.1 55 zs) → zg.1 55 26 = iN zU.1 → zg.1 55 27 = iN zU.2.1 → zg.1 55 28 = zU.2.2 → zQ none zg) : ∀ (z_n : Nat) (zg : am_H) (zi : Int) (zc : Int) (zl : Int) (zbe : Int32) (q_f : am_fr [55] zh zg) (q_sl : ∀ zs : Nat, zs ≠ 26 → zs ≠ 27 → zs ≠ 28 → zg.1 55 zs = zh.1 55 zs) (q_c : zg.1 55 26 = iN zc) (q_l : zg.1 55 27 = iN zl) (q_be : zg.1 55 28 = zbe) (q_i : 0 ≤ zi ∧ zi ≤ N) (q_u : zRr N G zr zn 16 zi zc zl zbe = zU), N - zi < (z_n : Int) → am_wp zd am_m_Model_rules 21 [(0, .ref 55), (1, .int (iN (zr))), (2, .int (iN (zn))), (3, .int (iN (zi)))] [] (78, 76) zg (78, 76) zQ := by
  obtain ⟨zd, rfl⟩ : ∃ y_e, zd = y_e + 5 := ⟨zd - 5, by omega⟩
  intro z_n
  induction z_n with
  | zero => intro zg zi zc zl zbe q_f q_sl q_c q_l q_be q_i q_u q_m; omega
  | succ z_n z_ih =>
    intro zg zi zc zl zbe q_f q_sl q_c q_l q_be q_i q_u q_m
    have q_N := q_g.1
    have q_nm1 : zMm (zg.1 55) (zg.1 56) N G S T := zMm_g q_nm (q_sl 0 (by decide) (by decide) (by decide)) (q_f.2 56 (by decide))
    refine wp_run (k := 3) (pc1 := 26) (l1 := [(0, .ref 55), (1, .int (iN (zr))), (2, .int (iN (zn))), (3, .int (iN (zi)))]) (st1 := [.int (iN (N)), .int (iN (zi))]) (kr1 := (78, 76)) (h1 := zg) (Eq.trans (b := (some (26, [(0, .ref 55), (1, .int (iN (zr))), (2, .int (iN (zn))), (3, .int (iN (zi)))], [.int (zg.1 55 0), .int (iN (zi))], (78, 76), zg) : Option am_C)) rfl (by simp only [(show (zg).1 55 0 = iN (N) from q_nm1.1), Int32.ofInt_add, Int32.ofInt_sub, Int32.ofInt_mul, Int32.ofInt_neg])) ?_
    refine wp_ge (a := zi) (b := N) rfl (by omega) (by omega) (fun b_26 => ?_) (fun b_26 => ?_)
    · refine wp_ret (rv := none) rfl ?_
      have y_u := (zRr_0 (G := G) (r := zr) (n := zn) (c := zc) (l := zl) (be := zbe) (show N ≤ zi by omega)).symm.trans q_u
      subst y_u
      exact zk zg q_f q_sl q_c q_l q_be
    · refine wp_run (k := 2) (pc1 := 32) (l1 := [(0, .ref 55), (1, .int (iN (zr))), (2, .int (iN (zn))), (3, .int (iN (zi))), (4, .int (iN (zi)))]) (st1 := []) (kr1 := (78, 76)) (h1 := zg) rfl ?_
      refine jl_mrend (zr := zr) (zn := zn) (za := zi) _ (by omega) q_nm1 q_g q_r q_n (by omega) ?_ 20 zi (by omega) rfl (by omega)
      have y_e := zEd_rg N G zr zn zi zi (by omega)
      have y_x := zNx_rg N G (zEd N G zr zn zi zi + 1)
      refine wp_run (k := 7) (pc1 := 71) (l1 := [(0, .ref 55), (1, .int (iN (zr))), (2, .int (iN (zn))), (3, .int (iN (zi))), (4, .int (iN (zEd N G zr zn zi zi)))]) (st1 := [.int (iN (zi)), .int (iN (zEd N G zr zn zi zi)), .int (iN (zi)), .ref 55, .int (iN (zc)), .ref 55]) (kr1 := (78, 76)) (h1 := zg) (Eq.trans (b := (some (71, [(0, .ref 55), (1, .int (iN (zr))), (2, .int (iN (zn))), (3, .int (iN (zi))), (4, .int (iN (zEd N G zr zn zi zi)))], [.int (iN (zi)), .int (iN (zEd N G zr zn zi zi)), .int (iN (zi)), .ref 55, .int (zg.1 55 26), .ref 55], (78, 76), zg) : Option am_C)) rfl (by simp only [(show (zg).1 55 26 = iN (zc) from q_c), Int32.ofInt_add, Int32.ofInt_sub, Int32.ofInt_mul, Int32.ofInt_neg])) ?_
      refine wp_call (md1 := am_m_Model_cost) (As := [.ref 55, .int (iN (zi)), .int (iN (zEd N G zr zn zi zi)), .int (iN (zi))]) (rest := [.int (iN (zc)), .ref 55]) (kr1 := (78, 76)) rfl (jm_cost _ (by omega) (zMm_g (fo' := (zg).1 55) (fc' := (zg).1 56) q_nm1 (rfl) (rfl)) q_g (za := zi) (zb := zEd N G zr zn zi zi) (zm := zi) (by omega)) ?_
      rintro _ _ ⟨rfl, rfl⟩
      refine wp_run (k := 1) (pc1 := 75) (l1 := [(0, .ref 55), (1, .int (iN (zr))), (2, .int (iN (zn))), (3, .int (iN (zi))), (4, .int (iN (zEd N G zr zn zi zi)))]) (st1 := [.int (iN ((zc) + (zCo G (zi) (zEd N G zr zn zi zi) (zi)))), .ref 55]) (kr1 := (78, 76)) (h1 := zg) (Eq.trans (b := (some (75, [(0, .ref 55), (1, .int (iN (zr))), (2, .int (iN (zn))), (3, .int (iN (zi))), (4, .int (iN (zEd N G zr zn zi zi)))], [.int ((iN (zc)) + (iN (zCo G (zi) (zEd N G zr zn zi zi) (zi)))), .ref 55], (78, 76), zg) : Option am_C)) rfl (by simp only [Int32.ofInt_add, Int32.ofInt_sub, Int32.ofInt_mul, Int32.ofInt_neg])) ?_
      refine wp_run (k := 6) (pc1 := 85) (l1 := [(0, .ref 55), (1, .int (iN (zr))), (2, .int (iN (zn))), (3, .int (iN (zi))), (4, .int (iN (zEd N G zr zn zi zi)))]) (st1 := [.int (iN ((zl) + (1))), .ref 55]) (kr1 := (78, 76)) (h1 := am_wr zg 55 26 (iN ((zc) + (zCo G (zi) (zEd N G zr zn zi zi) (zi))))) (Eq.trans (b := (some (85, [(0, .ref 55), (1, .int (iN (zr))), (2, .int (iN (zn))), (3, .int (iN (zi))), (4, .int (iN (zEd N G zr zn zi zi)))], [.int (((am_wr zg 55 26 (iN ((zc) + (zCo G (zi) (zEd N G zr zn zi zi) (zi))))).1 55 27) + (iN (1))), .ref 55], (78, 76), am_wr zg 55 26 (iN ((zc) + (zCo G (zi) (zEd N G zr zn zi zi) (zi))))) : Option am_C)) rfl (by simp only [(show (am_wr zg 55 26 (iN ((zc) + (zCo G (zi) (zEd N G zr zn zi zi) (zi))))).1 55 27 = iN (zl) from (am_wr_no (by decide)).trans (q_l))]; try simp only [Int32.ofInt_add, Int32.ofInt_sub, Int32.ofInt_mul, Int32.ofInt_neg])) ?_
      refine wp_run (k := 13) (pc1 := 105) (l1 := [(0, .ref 55), (1, .int (iN (zr))), (2, .int (iN (zn))), (3, .int (iN (zi))), (4, .int (iN (zEd N G zr zn zi zi)))]) (st1 := [.int (iN ((zEd N G zr zn zi zi) + (1))), .ref 55]) (kr1 := (78, 76)) (h1 := am_wr (am_wr (am_wr zg 55 26 (iN ((zc) + (zCo G (zi) (zEd N G zr zn zi zi) (zi))))) 55 27 (iN ((zl) + (1)))) 55 28 (((am_wr (am_wr zg 55 26 (iN ((zc) + (zCo G (zi) (zEd N G zr zn zi zi) (zi))))) 55 27 (iN ((zl) + (1)))).1 55 28) ||| ((iN (1)) <<< ((iN (zi)) &&& 31)))) (Eq.trans (b := (some (105, [(0, .ref 55), (1, .int (iN (zr))), (2, .int (iN (zn))), (3, .int (iN (zi))), (4, .int (iN (zEd N G zr zn zi zi)))], [.int ((iN (zEd N G zr zn zi zi)) + (iN (1))), .ref 55], (78, 76), am_wr (am_wr (am_wr zg 55 26 (iN ((zc) + (zCo G (zi) (zEd N G zr zn zi zi) (zi))))) 55 27 (iN ((zl) + (1)))) 55 28 (((am_wr (am_wr zg 55 26 (iN ((zc) + (zCo G (zi) (zEd N G zr zn zi zi) (zi))))) 55 27 (iN ((zl) + (1)))).1 55 28) ||| ((iN (1)) <<< ((iN (zi)) &&& 31)))) : Option am_C)) rfl (by simp only [Int32.ofInt_add, Int32.ofInt_sub, Int32.ofInt_mul, Int32.ofInt_neg])) ?_
      refine wp_call (md1 := am_m_Model_nextDemand) (As := [.ref 55, .int (iN ((zEd N G zr zn zi zi) + (1)))]) (rest := []) (kr1 := (78, 76)) rfl (jm_next _ (by omega) (zMm_g (fo' := (am_wr (am_wr (am_wr zg 55 26 (iN ((zc) + (zCo G (zi) (zEd N G zr zn zi zi) (zi))))) 55 27 (iN ((zl) + (1)))) 55 28 (((am_wr (am_wr zg 55 26 (iN ((zc) + (zCo G (zi) (zEd N G zr zn zi zi) (zi))))) 55 27 (iN ((zl) + (1)))).1 55 28) ||| ((iN (1)) <<< ((iN (zi)) &&& 31)))).1 55) (fc' := (am_wr (am_wr (am_wr zg 55 26 (iN ((zc) + (zCo G (zi) (zEd N G zr zn zi zi) (zi))))) 55 27 (iN ((zl) + (1)))) 55 28 (((am_wr (am_wr zg 55 26 (iN ((zc) + (zCo G (zi) (zEd N G zr zn zi zi) (zi))))) 55 27 (iN ((zl) + (1)))).1 55 28) ||| ((iN (1)) <<< ((iN (zi)) &&& 31)))).1 56) q_nm1 ((am_wr_no (by decide)).trans ((am_wr_no (by decide)).trans ((am_wr_no (by decide)).trans (rfl)))) ((am_wr_ne (by decide)).trans ((am_wr_ne (by decide)).trans ((am_wr_ne (by decide)).trans (rfl))))) q_g (zp := (zEd N G zr zn zi zi) + (1)) (by omega)) ?_
      rintro _ _ ⟨rfl, rfl⟩
      refine wp_run (k := 2) (pc1 := 21) (l1 := [(0, .ref 55), (1, .int (iN (zr))), (2, .int (iN (zn))), (3, .int (iN (zNx N G ((zEd N G zr zn zi zi) + (1))))), (4, .int (iN (zEd N G zr zn zi zi)))]) (st1 := []) (kr1 := (78, 76)) (h1 := am_wr (am_wr (am_wr zg 55 26 (iN ((zc) + (zCo G (zi) (zEd N G zr zn zi zi) (zi))))) 55 27 (iN ((zl) + (1)))) 55 28 (((am_wr (am_wr zg 55 26 (iN ((zc) + (zCo G (zi) (zEd N G zr zn zi zi) (zi))))) 55 27 (iN ((zl) + (1)))).1 55 28) ||| ((iN (1)) <<< ((iN (zi)) &&& 31)))) rfl ?_
      refine wp_drop [4] (l := [(0, .ref 55), (1, .int (iN (zr))), (2, .int (iN (zn))), (3, .int (iN (zNx N G ((zEd N G zr zn zi zi) + (1)))))]) rfl rfl ?_
      have y_be : (am_wr (am_wr zg 55 26 (iN ((zc) + (zCo G (zi) (zEd N G zr zn zi zi) (zi))))) 55 27 (iN ((zl) + (1)))).1 55 28 = zbe := (am_wr_no (by decide)).trans ((am_wr_no (by decide)).trans q_be)
      refine z_ih (am_wr (am_wr (am_wr zg 55 26 (iN ((zc) + (zCo G (zi) (zEd N G zr zn zi zi) (zi))))) 55 27 (iN ((zl) + (1)))) 55 28 (((am_wr (am_wr zg 55 26 (iN ((zc) + (zCo G (zi) (zEd N G zr zn zi zi) (zi))))) 55 27 (iN ((zl) + (1)))).1 55 28) ||| ((iN (1)) <<< ((iN (zi)) &&& 31)))) (zNx N G ((zEd N G zr zn zi zi) + (1))) (zc + zCo G zi (zEd N G zr zn zi zi) zi) (zl + 1) (zbe ||| (iN 1 <<< (iN zi &&& 31))) (am_fr_w (am_fr_w (am_fr_w q_f (by decide) _ _) (by decide) _ _) (by decide) _ _) ?_ ?_ ?_ ?_ (by omega) ?_ (by omega)
      · intro zs y1 y2 y3; rw [am_wr_no y3, am_wr_no y2, am_wr_no y1]; exact q_sl zs y1 y2 y3
      · rw [am_wr_no (by decide), am_wr_no (by decide), am_wr_at]
      · rw [am_wr_no (by decide), am_wr_at]
      · rw [am_wr_at, y_be]
      · rw [← zRr_1 (r := zr) (n := zn) q_N.2 (by omega) (by omega)]; exact q_u
set_option maxRecDepth 20000 in
set_option maxHeartbeats 4000000 in
theorem jm_rules (zd : Nat) (q_d : 5 ≤ zd) {zh : am_H} {N : Int} {G : Int → Int → Int} {S T : Int} {zr zn : Int} (q_nm : zMm (zh.1 55) (zh.1 56) N G S T) (q_g : zGk N G S T) (q_r : 0 ≤ zr ∧ zr ≤ 3) (q_n : -2147483648 ≤ zn ∧ zn < 2147483648) : am_wp zd am_m_Model_rules 0 [(0, .ref 55), (1, .int (iN (zr))), (2, .int (iN (zn)))] [] (78, 76) zh (78, 76) (fun rv h' => rv = none ∧ am_fr [55] zh h' ∧ (∀ zs : Nat, zs ≠ 26 → zs ≠ 27 → zs ≠ 28 → h'.1 55 zs = zh.1 55 zs) ∧ h'.1 55 26 = iN (zRu N G zr zn).1 ∧ h'.1 55 27 = iN (zRu N G zr zn).2.1 ∧ h'.1 55 28 = (zRu N G zr zn).2.2) := by
  obtain ⟨zd, rfl⟩ : ∃ y_e, zd = y_e + 5 := ⟨zd - 5, by omega⟩
  have q_N := q_g.1
  refine wp_run (k := 11) (pc1 := 17) (l1 := [(0, .ref 55), (1, .int (iN (zr))), (2, .int (iN (zn)))]) (st1 := [.int (iN (0)), .ref 55]) (kr1 := (78, 76)) (h1 := am_wr (am_wr (am_wr zh 55 26 (iN (0))) 55 27 (iN (0))) 55 28 (iN (0))) rfl ?_
  refine wp_call (md1 := am_m_Model_nextDemand) (As := [.ref 55, .int (iN (0))]) (rest := []) (kr1 := (78, 76)) rfl (jm_next _ (by omega) (zMm_g (fo' := (am_wr (am_wr (am_wr zh 55 26 (iN (0))) 55 27 (iN (0))) 55 28 (iN (0))).1 55) (fc' := (am_wr (am_wr (am_wr zh 55 26 (iN (0))) 55 27 (iN (0))) 55 28 (iN (0))).1 56) q_nm ((am_wr_no (by decide)).trans ((am_wr_no (by decide)).trans ((am_wr_no (by decide)).trans (rfl)))) ((am_wr_ne (by decide)).trans ((am_wr_ne (by decide)).trans ((am_wr_ne (by decide)).trans (rfl))))) q_g (zp := 0) (by omega)) ?_
  rintro _ _ ⟨rfl, rfl⟩
  refine wp_run (k := 1) (pc1 := 21) (l1 := [(0, .ref 55), (1, .int (iN (zr))), (2, .int (iN (zn))), (3, .int (iN (zNx N G (0))))]) (st1 := []) (kr1 := (78, 76)) (h1 := am_wr (am_wr (am_wr zh 55 26 (iN (0))) 55 27 (iN (0))) 55 28 (iN (0))) rfl ?_
  have y_x := zNx_rg N G 0
  exact jl_mrules (zh := zh) _ (by omega) q_nm q_g q_r q_n (fun zg y1 y2 y3 y4 y5 => ⟨rfl, y1, y2, y3, y4, y5⟩) 20 (am_wr (am_wr (am_wr zh 55 26 (iN (0))) 55 27 (iN (0))) 55 28 (iN (0))) (zNx N G 0) 0 0 0 (am_fr_w (am_fr_w (am_fr_w (am_fr_0 _ _) (by decide) _ _) (by decide) _ _) (by decide) _ _) (fun zs y1 y2 y3 => by rw [am_wr_no y3, am_wr_no y2, am_wr_no y1]) (by rw [am_wr_no (by decide), am_wr_no (by decide), am_wr_at]) (by rw [am_wr_no (by decide), am_wr_at]) (by rw [am_wr_at]; rfl) (by omega) rfl (by omega)
