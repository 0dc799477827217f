/-! RULES: the class's, the reference's -/
theorem zRr_rg {N : Int} {G : Int → Int → Int} {S T : Int} (q_g : zGk N G S T) {r n : Int} : ∀ (k : Nat) (a c l : Int) (be : Int32), 0 ≤ a → 0 ≤ c → 0 ≤ (zRr N G r n k a c l be).1 ∧ (zRr N G r n k a c l be).1 ≤ c + 6000000 * k := by
  intro k
  induction k with
  | zero => intro a c l be q1 q2; exact ⟨q2, by show c ≤ c + 6000000 * ((0 : Nat) : Int); omega⟩
  | succ k z_ih =>
    intro a c l be q1 q2
    by_cases y : a < N
    · have y1 := zEd_rg N G r n a a y
      have y2 := zNx_rg N G (zEd N G r n a a + 1)
      have y3 := zCo_rg q_g (a := a) (b := zEd N G r n a a) (m := a) (by omega) (by omega) (by omega) (by omega)
      have y4 := z_ih (zNx N G (zEd N G r n a a + 1)) (c + zCo G a (zEd N G r n a a) a) (l + 1) (be ||| (iN 1 <<< (iN a &&& 31))) (by omega) (by omega)
      have e1 : zRr N G r n (k + 1) a c l be = zRr N G r n k (zNx N G (zEd N G r n a a + 1)) (c + zCo G a (zEd N G r n a a) a) (l + 1) (be ||| (iN 1 <<< (iN a &&& 31))) := if_pos y
      rw [e1]
      omega
    · have e1 : zRr N G r n (k + 1) a c l be = (c, l, be) := if_neg y
      rw [e1]
      dsimp only
      omega
theorem zRu_rg {N : Int} {G : Int → Int → Int} {S T : Int} (q_g : zGk N G S T) (r n : Int) : 0 ≤ (zRu N G r n).1 ∧ (zRu N G r n).1 ≤ 96000000 := by
  have y2 := zNx_rg N G 0
  have y1 := zRr_rg q_g (r := r) (n := n) 16 (zNx N G 0) 0 0 0 (by omega) (by omega)
  unfold zRu
  omega
set_option maxRecDepth 20000 in
set_option maxHeartbeats 4000000 in
theorem jl_rfrom (zd : Nat) (q_d : 1 ≤ zd) {zh : am_H} {N : Int} {G : Int → Int → Int} {S T : Int} {zp zr : Int} (q_nm : zNm (zh.1 1) (zh.1 2) N G S T) (q_g : zGk N G S T) {zQ : Option Value → am_H → Prop} (zk : ∀ zv : Int, zv = zr → zQ (some (.int (iN zv))) zh) : ∀ (z_n : Nat) (zi : Int) (q_i : 0 ≤ zi ∧ zi ≤ N) (q_z : zNx N G zi = zr), N - zi < (z_n : Int) → am_wp zd am_m_ByRule_demandFrom 2 [(0, .ref 22), (1, .ref 1), (2, .int (iN (zp))), (3, .int (iN (zi)))] [] (78, 76) zh (78, 76) zQ := by
  obtain ⟨zd, rfl⟩ : ∃ y_e, zd = y_e + 1 := ⟨zd - 1, by omega⟩
  intro z_n
  induction z_n with
  | zero => intro zi q_i q_z q_m; omega
  | succ z_n z_ih =>
    intro zi q_i q_z q_m
    have q_N := q_g.1
    refine wp_run (k := 2) (pc1 := 4) (l1 := [(0, .ref 22), (1, .ref 1), (2, .int (iN (zp))), (3, .int (iN (zi)))]) (st1 := [.ref 1, .int (iN (zi))]) (kr1 := (78, 76)) (h1 := zh) rfl ?_
    refine wp_call (md1 := am_m_Numbers_size) (As := [.ref 1]) (rest := [.int (iN (zi))]) (kr1 := (78, 76)) rfl (jt_size_1 _ (by omega) q_nm q_g) ?_
    rintro _ _ ⟨rfl, rfl⟩
    refine wp_ge (a := zi) (b := N) rfl (by omega) (by omega) (fun b_7 => ?_) (fun b_7 => ?_)
    · refine wp_run (k := 1) (pc1 := 26) (l1 := [(0, .ref 22), (1, .ref 1), (2, .int (iN (zp))), (3, .int (iN (zi)))]) (st1 := [.int (iN (zi))]) (kr1 := (78, 76)) (h1 := zh) rfl ?_
      refine wp_ret (rv := some (.int (iN (zi)))) rfl ?_
      refine zk _ ?_
      rw [← q_z]
      by_cases y : N ≤ zi
      · rw [zNx_0 y]
      · rw [zNx_1 (by omega)]
    · have y_0 := q_g.2.1 0 zi (by omega) (by omega) (by omega) (by omega)
      have y_v0 := (show vmax 0 = 99 from rfl)
      refine wp_run (k := 3) (pc1 := 13) (l1 := [(0, .ref 22), (1, .ref 1), (2, .int (iN (zp))), (3, .int (iN (zi)))]) (st1 := [.int (iN (0)), .int (iN (zi)), .ref 1]) (kr1 := (78, 76)) (h1 := zh) rfl ?_
      refine wp_call (md1 := am_m_Numbers_value) (As := [.ref 1, .int (iN (zi)), .int (iN (0))]) (rest := []) (kr1 := (78, 76)) rfl (jt_value_1 _ (by omega) q_nm q_g (zp := zi) (zw := 0) (by omega) (by omega)) ?_
      rintro _ _ ⟨rfl, rfl⟩
      refine wp_ne0 (a := G (0) (zi)) rfl (by omega) (fun b_16 => ?_) (fun b_16 => ?_)
      · refine wp_run (k := 1) (pc1 := 26) (l1 := [(0, .ref 22), (1, .ref 1), (2, .int (iN (zp))), (3, .int (iN (zi)))]) (st1 := [.int (iN (zi))]) (kr1 := (78, 76)) (h1 := zh) rfl ?_
        refine wp_ret (rv := some (.int (iN (zi)))) rfl ?_
        refine zk _ ?_
        rw [← q_z]
        by_cases y : N ≤ zi
        · rw [zNx_0 y]
        · rw [zNx_1 (by omega)]
      · refine wp_run (k := 2) (pc1 := 2) (l1 := [(0, .ref 22), (1, .ref 1), (2, .int (iN (zp))), (3, .int (iN ((zi) + 1)))]) (st1 := []) (kr1 := (78, 76)) (h1 := zh) (Eq.trans (b := (some (2, [(0, .ref 22), (1, .ref 1), (2, .int (iN (zp))), (3, .int ((iN (zi)) + iN (1)))], [], (78, 76), zh) : Option am_C)) rfl (by simp only [Int32.ofInt_add, Int32.ofInt_sub, Int32.ofInt_mul, Int32.ofInt_neg])) ?_
        exact z_ih (zi + 1) (by omega) (by rw [← q_z]; exact (zNx_2 (by omega) (by omega)).symm) (by omega)
set_option maxRecDepth 20000 in
set_option maxHeartbeats 4000000 in
theorem jt_rfrom (zd : Nat) (q_d : 1 ≤ zd) {zh : am_H} {N : Int} {G : Int → Int → Int} {S T : Int} {zp : Int} (q_nm : zNm (zh.1 1) (zh.1 2) N G S T) (q_g : zGk N G S T) (q_p : 0 ≤ zp ∧ zp ≤ N) : am_wp zd am_m_ByRule_demandFrom 0 [(0, .ref 22), (1, .ref 1), (2, .int (iN (zp)))] [] (78, 76) zh (78, 76) (fun rv h' => rv = some (.int (iN (zNx N G zp))) ∧ zh = h') := by
  obtain ⟨zd, rfl⟩ : ∃ y_e, zd = y_e + 1 := ⟨zd - 1, by omega⟩
  have q_N := q_g.1
  refine wp_run (k := 2) (pc1 := 2) (l1 := [(0, .ref 22), (1, .ref 1), (2, .int (iN (zp))), (3, .int (iN (zp)))]) (st1 := []) (kr1 := (78, 76)) (h1 := zh) rfl ?_
  exact jl_rfrom _ (by omega) q_nm q_g (fun zv q_v => ⟨by rw [q_v], rfl⟩) 20 zp (by omega) rfl (by omega)
set_option maxRecDepth 20000 in
set_option maxHeartbeats 4000000 in
theorem jl_rheld (zd : Nat) (q_d : 1 ≤ zd) {zh : am_H} {N : Int} {G : Int → Int → Int} {S T : Int} {za zb : Int} (q_nm : zNm (zh.1 1) (zh.1 2) N G S T) (q_g : zGk N G S T) (q_0 : 0 ≤ za ∧ za ≤ zb ∧ zb < N) {zQ : Option Value → am_H → Prop} (zk : ∀ zv : Int, zv = zHe G za zb → zQ (some (.int (iN zv))) zh) : ∀ (z_n : Nat) (zi : Int) (zl : Int) (zk1 : Int) (q_i : za ≤ zi ∧ zi ≤ zb + 1) (q_h : zl = zHe G za (zi - 1)) (q_k : zk1 = zSi (G 3) zi - zSi (G 3) za), zb + 1 - zi < (z_n : Int) → am_wp zd am_m_ByRule_held 9 [(0, .ref 22), (1, .ref 1), (2, .int (iN (za))), (3, .int (iN (zb))), (4, .int (iN (zl))), (5, .int (iN (zk1))), (6, .int (iN (zi)))] [] (78, 76) zh (78, 76) zQ := by
  obtain ⟨zd, rfl⟩ : ∃ y_e, zd = y_e + 1 := ⟨zd - 1, by omega⟩
  intro z_n
  induction z_n with
  | zero => intro zi zl zk1 q_i q_h q_k q_m; omega
  | succ z_n z_ih =>
    intro zi zl zk1 q_i q_h q_k q_m
    have q_N := q_g.1
    refine wp_run (k := 2) (pc1 := 12) (l1 := [(0, .ref 22), (1, .ref 1), (2, .int (iN (za))), (3, .int (iN (zb))), (4, .int (iN (zl))), (5, .int (iN (zk1))), (6, .int (iN (zi)))]) (st1 := [.int (iN (zb)), .int (iN (zi))]) (kr1 := (78, 76)) (h1 := zh) rfl ?_
    refine wp_gt (a := zi) (b := zb) rfl (by omega) (by omega) (fun b_12 => ?_) (fun b_12 => ?_)
    · refine wp_run (k := 1) (pc1 := 50) (l1 := [(0, .ref 22), (1, .ref 1), (2, .int (iN (za))), (3, .int (iN (zb))), (4, .int (iN (zl))), (5, .int (iN (zk1))), (6, .int (iN (zi)))]) (st1 := [.int (iN (zl))]) (kr1 := (78, 76)) (h1 := zh) rfl ?_
      refine wp_ret (rv := some (.int (iN (zl)))) rfl ?_
      refine zk _ ?_
      rw [q_h, show zi - 1 = zb by omega]
    · refine wp_run (k := 5) (pc1 := 23) (l1 := [(0, .ref 22), (1, .ref 1), (2, .int (iN (za))), (3, .int (iN (zb))), (4, .int (iN (zl))), (5, .int (iN (zk1))), (6, .int (iN (zi)))]) (st1 := [.int (iN (0)), .int (iN (zi)), .ref 1, .int (iN (zk1)), .int (iN (zl))]) (kr1 := (78, 76)) (h1 := zh) rfl ?_
      refine wp_call (md1 := am_m_Numbers_value) (As := [.ref 1, .int (iN (zi)), .int (iN (0))]) (rest := [.int (iN (zk1)), .int (iN (zl))]) (kr1 := (78, 76)) rfl (jt_value_1 _ (by omega) q_nm q_g (zp := zi) (zw := 0) (by omega) (by omega)) ?_
      rintro _ _ ⟨rfl, rfl⟩
      refine wp_run (k := 7) (pc1 := 36) (l1 := [(0, .ref 22), (1, .ref 1), (2, .int (iN (za))), (3, .int (iN (zb))), (4, .int (iN ((zl) + ((zk1) * (G (0) (zi)))))), (5, .int (iN (zk1))), (6, .int (iN (zi)))]) (st1 := [.int (iN (3)), .int (iN (zi)), .ref 1, .int (iN (zk1))]) (kr1 := (78, 76)) (h1 := zh) (Eq.trans (b := (some (36, [(0, .ref 22), (1, .ref 1), (2, .int (iN (za))), (3, .int (iN (zb))), (4, .int ((iN (zl)) + ((iN (zk1)) * (iN (G (0) (zi)))))), (5, .int (iN (zk1))), (6, .int (iN (zi)))], [.int (iN (3)), .int (iN (zi)), .ref 1, .int (iN (zk1))], (78, 76), zh) : Option am_C)) rfl (by simp only [Int32.ofInt_add, Int32.ofInt_sub, Int32.ofInt_mul, Int32.ofInt_neg])) ?_
      refine wp_call (md1 := am_m_Numbers_value) (As := [.ref 1, .int (iN (zi)), .int (iN (3))]) (rest := [.int (iN (zk1))]) (kr1 := (78, 76)) rfl (jt_value_1 _ (by omega) q_nm q_g (zp := zi) (zw := 3) (by omega) (by omega)) ?_
      rintro _ _ ⟨rfl, rfl⟩
      refine wp_run (k := 4) (pc1 := 9) (l1 := [(0, .ref 22), (1, .ref 1), (2, .int (iN (za))), (3, .int (iN (zb))), (4, .int (iN ((zl) + ((zk1) * (G (0) (zi)))))), (5, .int (iN ((zk1) + (G (3) (zi))))), (6, .int (iN ((zi) + 1)))]) (st1 := []) (kr1 := (78, 76)) (h1 := zh) (Eq.trans (b := (some (9, [(0, .ref 22), (1, .ref 1), (2, .int (iN (za))), (3, .int (iN (zb))), (4, .int (iN ((zl) + ((zk1) * (G (0) (zi)))))), (5, .int ((iN (zk1)) + (iN (G (3) (zi))))), (6, .int ((iN (zi)) + iN (1)))], [], (78, 76), zh) : Option am_C)) rfl (by simp only [Int32.ofInt_add, Int32.ofInt_sub, Int32.ofInt_mul, Int32.ofInt_neg])) ?_
      refine z_ih (zi + 1) ((zl) + ((zk1) * (G (0) (zi)))) ((zk1) + (G (3) (zi))) (by omega) ?_ ?_ (by omega)
      · rw [show zi + 1 - 1 = zi by omega, zHe_dd G za zi (by omega) (by omega), q_h, q_k]
      · rw [zSi_s (G 3) zi (by omega), q_k]; omega
set_option maxRecDepth 20000 in
set_option maxHeartbeats 4000000 in
theorem jt_rheld (zd : Nat) (q_d : 1 ≤ zd) {zh : am_H} {N : Int} {G : Int → Int → Int} {S T : Int} {za zb : Int} (q_nm : zNm (zh.1 1) (zh.1 2) N G S T) (q_g : zGk N G S T) (q_0 : 0 ≤ za ∧ za ≤ zb ∧ zb < N) : am_wp zd am_m_ByRule_held 0 [(0, .ref 22), (1, .ref 1), (2, .int (iN (za))), (3, .int (iN (zb)))] [] (78, 76) zh (78, 76) (fun rv h' => rv = some (.int (iN (zHe G za zb))) ∧ zh = h') := by
  obtain ⟨zd, rfl⟩ : ∃ y_e, zd = y_e + 1 := ⟨zd - 1, by omega⟩
  have q_N := q_g.1
  refine wp_run (k := 6) (pc1 := 9) (l1 := [(0, .ref 22), (1, .ref 1), (2, .int (iN (za))), (3, .int (iN (zb))), (4, .int (iN (0))), (5, .int (iN (0))), (6, .int (iN (za)))]) (st1 := []) (kr1 := (78, 76)) (h1 := zh) rfl ?_
  exact jl_rheld _ (by omega) q_nm q_g q_0 (fun zv q_v => ⟨by rw [q_v], rfl⟩) 20 za 0 0 (by omega) (by unfold zHe; rw [show (za - 1 - za).toNat = 0 by omega]; rfl) (by omega) (by omega)
set_option maxRecDepth 20000 in
set_option maxHeartbeats 4000000 in
theorem jt_rmean (zd : Nat) (q_d : 2 ≤ zd) {zh : am_H} {N : Int} {G : Int → Int → Int} {S T : Int} {za zb : Int} (q_nm : zNm (zh.1 1) (zh.1 2) N G S T) (q_g : zGk N G S T) (q_0 : 0 ≤ za ∧ za ≤ zb ∧ zb + 1 < N) : am_wp zd am_m_ByRule_meanGrows 0 [(0, .ref 22), (1, .ref 1), (2, .int (iN (za))), (3, .int (iN (zb)))] [] (78, 76) zh (78, 76) (fun rv h' => rv = some (.int (iN (bI ((G 1 za + zHe G za zb) * (zb - za + 2) < (G 1 za + zHe G za (zb + 1)) * (zb - za + 1)) inferInstance))) ∧ zh = h') := by
  obtain ⟨zd, rfl⟩ : ∃ y_e, zd = y_e + 2 := ⟨zd - 2, by omega⟩
  have q_N := q_g.1
  have y_1 := q_g.2.1 1 za (by omega) (by omega) (by omega) (by omega)
  have y_v1 := (show vmax 1 = 999 from rfl)
  have y_h1 := zHe_rg q_g (a := za) (b := zb) (by omega) (by omega) (by omega)
  have y_h2 := zHe_rg q_g (a := za) (b := zb + 1) (by omega) (by omega) (by omega)
  have y_m1 := zmul_rg (x := G 1 za + zHe G za (zb + 1)) (X := 2600000) (y := zb - za + 1) (Y := 17) (by omega) (by omega)
  have y_m2 := zmul_rg (x := G 1 za + zHe G za zb) (X := 2600000) (y := zb - za + 2) (Y := 18) (by omega) (by omega)
  refine wp_run (k := 3) (pc1 := 3) (l1 := [(0, .ref 22), (1, .ref 1), (2, .int (iN (za))), (3, .int (iN (zb)))]) (st1 := [.int (iN (1)), .int (iN (za)), .ref 1]) (kr1 := (78, 76)) (h1 := zh) rfl ?_
  refine wp_call (md1 := am_m_Numbers_value) (As := [.ref 1, .int (iN (za)), .int (iN (1))]) (rest := []) (kr1 := (78, 76)) rfl (jt_value_1 _ (by omega) q_nm q_g (zp := za) (zw := 1) (by omega) (by omega)) ?_
  rintro _ _ ⟨rfl, rfl⟩
  refine wp_run (k := 14) (pc1 := 23) (l1 := [(0, .ref 22), (1, .ref 1), (2, .int (iN (za))), (3, .int (iN (zb))), (4, .int (iN (G (1) (za)))), (5, .int (iN (((zb) - (za)) + (1))))]) (st1 := [.int (iN ((zb) + (1))), .int (iN (za)), .ref 1, .ref 22, .int (iN (G (1) (za)))]) (kr1 := (78, 76)) (h1 := zh) (Eq.trans (b := (some (23, [(0, .ref 22), (1, .ref 1), (2, .int (iN (za))), (3, .int (iN (zb))), (4, .int (iN (G (1) (za)))), (5, .int (((iN (zb)) - (iN (za))) + (iN (1))))], [.int ((iN (zb)) + (iN (1))), .int (iN (za)), .ref 1, .ref 22, .int (iN (G (1) (za)))], (78, 76), zh) : Option am_C)) rfl (by simp only [Int32.ofInt_add, Int32.ofInt_sub, Int32.ofInt_mul, Int32.ofInt_neg])) ?_
  refine wp_call (md1 := am_m_ByRule_held) (As := [.ref 22, .ref 1, .int (iN (za)), .int (iN ((zb) + (1)))]) (rest := [.int (iN (G (1) (za)))]) (kr1 := (78, 76)) rfl (jt_rheld _ (by omega) q_nm q_g (za := za) (zb := (zb) + (1)) (by omega)) ?_
  rintro _ _ ⟨rfl, rfl⟩
  refine wp_run (k := 8) (pc1 := 36) (l1 := [(0, .ref 22), (1, .ref 1), (2, .int (iN (za))), (3, .int (iN (zb))), (4, .int (iN (G (1) (za)))), (5, .int (iN (((zb) - (za)) + (1))))]) (st1 := [.int (iN (zb)), .int (iN (za)), .ref 1, .ref 22, .int (iN (G (1) (za))), .int (iN (((G (1) (za)) + (zHe G (za) ((zb) + (1)))) * (((zb) - (za)) + (1))))]) (kr1 := (78, 76)) (h1 := zh) (Eq.trans (b := (some (36, [(0, .ref 22), (1, .ref 1), (2, .int (iN (za))), (3, .int (iN (zb))), (4, .int (iN (G (1) (za)))), (5, .int (iN (((zb) - (za)) + (1))))], [.int (iN (zb)), .int (iN (za)), .ref 1, .ref 22, .int (iN (G (1) (za))), .int (((iN (G (1) (za))) + (iN (zHe G (za) ((zb) + (1))))) * (iN (((zb) - (za)) + (1))))], (78, 76), zh) : Option am_C)) rfl (by simp only [Int32.ofInt_add, Int32.ofInt_sub, Int32.ofInt_mul, Int32.ofInt_neg])) ?_
  refine wp_call (md1 := am_m_ByRule_held) (As := [.ref 22, .ref 1, .int (iN (za)), .int (iN (zb))]) (rest := [.int (iN (G (1) (za))), .int (iN (((G (1) (za)) + (zHe G (za) ((zb) + (1)))) * (((zb) - (za)) + (1))))]) (kr1 := (78, 76)) rfl (jt_rheld _ (by omega) q_nm q_g (za := za) (zb := zb) (by omega)) ?_
  rintro _ _ ⟨rfl, rfl⟩
  refine wp_run (k := 5) (pc1 := 45) (l1 := [(0, .ref 22), (1, .ref 1), (2, .int (iN (za))), (3, .int (iN (zb))), (4, .int (iN (G (1) (za)))), (5, .int (iN (((zb) - (za)) + (1))))]) (st1 := [.int (iN (((G (1) (za)) + (zHe G (za) (zb))) * ((((zb) - (za)) + (1)) + (1)))), .int (iN (((G (1) (za)) + (zHe G (za) ((zb) + (1)))) * (((zb) - (za)) + (1))))]) (kr1 := (78, 76)) (h1 := zh) (Eq.trans (b := (some (45, [(0, .ref 22), (1, .ref 1), (2, .int (iN (za))), (3, .int (iN (zb))), (4, .int (iN (G (1) (za)))), (5, .int (iN (((zb) - (za)) + (1))))], [.int (((iN (G (1) (za))) + (iN (zHe G (za) (zb)))) * ((iN (((zb) - (za)) + (1))) + (iN (1)))), .int (iN (((G (1) (za)) + (zHe G (za) ((zb) + (1)))) * (((zb) - (za)) + (1))))], (78, 76), zh) : Option am_C)) rfl (by simp only [Int32.ofInt_add, Int32.ofInt_sub, Int32.ofInt_mul, Int32.ofInt_neg])) ?_
  rw [show ((G (1) (za)) + (zHe G (za) (zb))) * ((((zb) - (za)) + (1)) + (1)) = (G 1 za + zHe G za zb) * (zb - za + 2) from by rw [show ((zb) - (za)) + (1) + 1 = zb - za + 2 by omega]]
  refine wp_le (a := ((G (1) (za)) + (zHe G (za) ((zb) + (1)))) * (((zb) - (za)) + (1))) (b := (G 1 za + zHe G za zb) * (zb - za + 2)) rfl (by omega) (by omega) (fun b_45 => ?_) (fun b_45 => ?_)
  · refine wp_run (k := 1) (pc1 := 53) (l1 := [(0, .ref 22), (1, .ref 1), (2, .int (iN (za))), (3, .int (iN (zb))), (4, .int (iN (G (1) (za)))), (5, .int (iN (((zb) - (za)) + (1))))]) (st1 := [.int (iN (0))]) (kr1 := (78, 76)) (h1 := zh) rfl ?_
    refine wp_ret (rv := some (.int (iN (0)))) rfl ?_
    exact ⟨by rw [show bI ((G 1 za + zHe G za zb) * (zb - za + 2) < (G 1 za + zHe G za (zb + 1)) * (zb - za + 1)) inferInstance = 0 from if_neg (by omega)], rfl⟩
  · refine wp_run (k := 2) (pc1 := 53) (l1 := [(0, .ref 22), (1, .ref 1), (2, .int (iN (za))), (3, .int (iN (zb))), (4, .int (iN (G (1) (za)))), (5, .int (iN (((zb) - (za)) + (1))))]) (st1 := [.int (iN (1))]) (kr1 := (78, 76)) (h1 := zh) rfl ?_
    refine wp_ret (rv := some (.int (iN (1)))) rfl ?_
    exact ⟨by rw [show bI ((G 1 za + zHe G za zb) * (zb - za + 2) < (G 1 za + zHe G za (zb + 1)) * (zb - za + 1)) inferInstance = 1 from if_pos (by omega)], rfl⟩
set_option maxRecDepth 20000 in
set_option maxHeartbeats 4000000 in
theorem jl_rbym (zd : Nat) (q_d : 3 ≤ zd) {zh : am_H} {N : Int} {G : Int → Int → Int} {S T : Int} {za zn ze : Int} (q_nm : zNm (zh.1 1) (zh.1 2) N G S T) (q_g : zGk N G S T) (q_0 : 0 ≤ za ∧ za < N) {zQ : Option Value → am_H → Prop} (zk : ∀ zv : Int, zv = ze → zQ (some (.int (iN zv))) zh) : ∀ (z_n : Nat) (zi : Int) (q_i : za ≤ zi ∧ zi < N) (q_z : zEd N G 2 zn za zi = ze), N - zi < (z_n : Int) → am_wp zd am_m_ByRule_endByMean 2 [(0, .ref 22), (1, .ref 1), (2, .int (iN (za))), (3, .int (iN (zi)))] [] (78, 76) zh (78, 76) zQ := by
  obtain ⟨zd, rfl⟩ : ∃ y_e, zd = y_e + 3 := ⟨zd - 3, by omega⟩
  intro z_n
  induction z_n with
  | zero => intro zi q_i q_z q_m; omega
  | succ z_n z_ih =>
    intro zi q_i q_z q_m
    have q_N := q_g.1
    refine wp_run (k := 4) (pc1 := 6) (l1 := [(0, .ref 22), (1, .ref 1), (2, .int (iN (za))), (3, .int (iN (zi)))]) (st1 := [.ref 1, .int (iN ((zi) + (1)))]) (kr1 := (78, 76)) (h1 := zh) (Eq.trans (b := (some (6, [(0, .ref 22), (1, .ref 1), (2, .int (iN (za))), (3, .int (iN (zi)))], [.ref 1, .int ((iN (zi)) + (iN (1)))], (78, 76), zh) : Option am_C)) rfl (by simp only [Int32.ofInt_add, Int32.ofInt_sub, Int32.ofInt_mul, Int32.ofInt_neg])) ?_
    refine wp_call (md1 := am_m_Numbers_size) (As := [.ref 1]) (rest := [.int (iN ((zi) + (1)))]) (kr1 := (78, 76)) rfl (jt_size_1 _ (by omega) q_nm q_g) ?_
    rintro _ _ ⟨rfl, rfl⟩
    refine wp_ge (a := (zi) + (1)) (b := N) rfl (by omega) (by omega) (fun b_9 => ?_) (fun b_9 => ?_)
    · refine wp_run (k := 1) (pc1 := 29) (l1 := [(0, .ref 22), (1, .ref 1), (2, .int (iN (za))), (3, .int (iN (zi)))]) (st1 := [.int (iN (zi))]) (kr1 := (78, 76)) (h1 := zh) rfl ?_
      refine wp_ret (rv := some (.int (iN (zi)))) rfl ?_
      refine zk _ ?_
      rw [← q_z]
      exact (zEd_2 (fun z => by
        have z2 := z.1
        rcases z.2 with z1 | z1 | z1 | z1 <;> omega)).symm
    · refine wp_run (k := 4) (pc1 := 16) (l1 := [(0, .ref 22), (1, .ref 1), (2, .int (iN (za))), (3, .int (iN (zi)))]) (st1 := [.int (iN (zi)), .int (iN (za)), .ref 1, .ref 22]) (kr1 := (78, 76)) (h1 := zh) rfl ?_
      refine wp_call (md1 := am_m_ByRule_meanGrows) (As := [.ref 22, .ref 1, .int (iN (za)), .int (iN (zi))]) (rest := []) (kr1 := (78, 76)) rfl (jt_rmean _ (by omega) q_nm q_g (za := za) (zb := zi) (by omega)) ?_
      rintro _ _ ⟨rfl, rfl⟩
      refine wp_neb rfl (fun b_19 => ?_) (fun b_19 => ?_)
      · refine wp_run (k := 1) (pc1 := 29) (l1 := [(0, .ref 22), (1, .ref 1), (2, .int (iN (za))), (3, .int (iN (zi)))]) (st1 := [.int (iN (zi))]) (kr1 := (78, 76)) (h1 := zh) rfl ?_
        refine wp_ret (rv := some (.int (iN (zi)))) rfl ?_
        refine zk _ ?_
        rw [← q_z]
        exact (zEd_2 (fun z => by
          have z2 := z.1
          rcases z.2 with z1 | z1 | z1 | z1 <;> omega)).symm
      · refine wp_run (k := 2) (pc1 := 2) (l1 := [(0, .ref 22), (1, .ref 1), (2, .int (iN (za))), (3, .int (iN ((zi) + 1)))]) (st1 := []) (kr1 := (78, 76)) (h1 := zh) (Eq.trans (b := (some (2, [(0, .ref 22), (1, .ref 1), (2, .int (iN (za))), (3, .int ((iN (zi)) + iN (1)))], [], (78, 76), zh) : Option am_C)) rfl (by simp only [Int32.ofInt_add, Int32.ofInt_sub, Int32.ofInt_mul, Int32.ofInt_neg])) ?_
        exact z_ih (zi + 1) (by omega) (by rw [← q_z]; exact (zEd_1 (by omega) (Or.inr (Or.inr (Or.inl ⟨rfl, by omega⟩)))).symm) (by omega)
set_option maxRecDepth 20000 in
set_option maxHeartbeats 4000000 in
theorem jt_rbym (zd : Nat) (q_d : 3 ≤ zd) {zh : am_H} {N : Int} {G : Int → Int → Int} {S T : Int} {za : Int} (zn : Int) (q_nm : zNm (zh.1 1) (zh.1 2) N G S T) (q_g : zGk N G S T) (q_0 : 0 ≤ za ∧ za < N) : am_wp zd am_m_ByRule_endByMean 0 [(0, .ref 22), (1, .ref 1), (2, .int (iN (za)))] [] (78, 76) zh (78, 76) (fun rv h' => rv = some (.int (iN (zEd N G 2 zn za za))) ∧ zh = h') := by
  obtain ⟨zd, rfl⟩ : ∃ y_e, zd = y_e + 3 := ⟨zd - 3, by omega⟩
  have q_N := q_g.1
  refine wp_run (k := 2) (pc1 := 2) (l1 := [(0, .ref 22), (1, .ref 1), (2, .int (iN (za))), (3, .int (iN (za)))]) (st1 := []) (kr1 := (78, 76)) (h1 := zh) rfl ?_
  exact jl_rbym (zn := zn) _ (by omega) q_nm q_g q_0 (fun zv q_v => ⟨by rw [q_v], rfl⟩) 20 za (by omega) rfl (by omega)
set_option maxRecDepth 20000 in
set_option maxHeartbeats 4000000 in
theorem jl_rbyp (zd : Nat) (q_d : 3 ≤ zd) {zh : am_H} {N : Int} {G : Int → Int → Int} {S T : Int} {za zn ze : Int} (q_nm : zNm (zh.1 1) (zh.1 2) N G S T) (q_g : zGk N G S T) (q_0 : 0 ≤ za ∧ za < N) {zQ : Option Value → am_H → Prop} (zk : ∀ zv : Int, zv = ze → zQ (some (.int (iN zv))) zh) : ∀ (z_n : Nat) (zi : Int) (q_i : za ≤ zi ∧ zi < N) (q_z : zEd N G 3 zn za zi = ze), N - zi < (z_n : Int) → am_wp zd am_m_ByRule_endByParts 2 [(0, .ref 22), (1, .ref 1), (2, .int (iN (za))), (3, .int (iN (zi)))] [] (78, 76) zh (78, 76) zQ := by
  obtain ⟨zd, rfl⟩ : ∃ y_e, zd = y_e + 3 := ⟨zd - 3, by omega⟩
  intro z_n
  induction z_n with
  | zero => intro zi q_i q_z q_m; omega
  | succ z_n z_ih =>
    intro zi q_i q_z q_m
    have q_N := q_g.1
    refine wp_run (k := 4) (pc1 := 6) (l1 := [(0, .ref 22), (1, .ref 1), (2, .int (iN (za))), (3, .int (iN (zi)))]) (st1 := [.ref 1, .int (iN ((zi) + (1)))]) (kr1 := (78, 76)) (h1 := zh) (Eq.trans (b := (some (6, [(0, .ref 22), (1, .ref 1), (2, .int (iN (za))), (3, .int (iN (zi)))], [.ref 1, .int ((iN (zi)) + (iN (1)))], (78, 76), zh) : Option am_C)) rfl (by simp only [Int32.ofInt_add, Int32.ofInt_sub, Int32.ofInt_mul, Int32.ofInt_neg])) ?_
    refine wp_call (md1 := am_m_Numbers_size) (As := [.ref 1]) (rest := [.int (iN ((zi) + (1)))]) (kr1 := (78, 76)) rfl (jt_size_1 _ (by omega) q_nm q_g) ?_
    rintro _ _ ⟨rfl, rfl⟩
    refine wp_ge (a := (zi) + (1)) (b := N) rfl (by omega) (by omega) (fun b_9 => ?_) (fun b_9 => ?_)
    · refine wp_run (k := 1) (pc1 := 37) (l1 := [(0, .ref 22), (1, .ref 1), (2, .int (iN (za))), (3, .int (iN (zi)))]) (st1 := [.int (iN (zi))]) (kr1 := (78, 76)) (h1 := zh) rfl ?_
      refine wp_ret (rv := some (.int (iN (zi)))) rfl ?_
      refine zk _ ?_
      rw [← q_z]
      exact (zEd_2 (fun z => by
        have z2 := z.1
        rcases z.2 with z1 | z1 | z1 | z1 <;> omega)).symm
    · have y_h := zHe_rg q_g (a := za) (b := zi + 1) (by omega) (by omega) (by omega)
      have y_1 := q_g.2.1 1 za (by omega) (by omega) (by omega) (by omega)
      have y_v1 := (show vmax 1 = 999 from rfl)
      refine wp_run (k := 6) (pc1 := 18) (l1 := [(0, .ref 22), (1, .ref 1), (2, .int (iN (za))), (3, .int (iN (zi)))]) (st1 := [.int (iN ((zi) + (1))), .int (iN (za)), .ref 1, .ref 22]) (kr1 := (78, 76)) (h1 := zh) (Eq.trans (b := (some (18, [(0, .ref 22), (1, .ref 1), (2, .int (iN (za))), (3, .int (iN (zi)))], [.int ((iN (zi)) + (iN (1))), .int (iN (za)), .ref 1, .ref 22], (78, 76), zh) : Option am_C)) rfl (by simp only [Int32.ofInt_add, Int32.ofInt_sub, Int32.ofInt_mul, Int32.ofInt_neg])) ?_
      refine wp_call (md1 := am_m_ByRule_held) (As := [.ref 22, .ref 1, .int (iN (za)), .int (iN ((zi) + (1)))]) (rest := []) (kr1 := (78, 76)) rfl (jt_rheld _ (by omega) q_nm q_g (za := za) (zb := (zi) + (1)) (by omega)) ?_
      rintro _ _ ⟨rfl, rfl⟩
      refine wp_run (k := 3) (pc1 := 24) (l1 := [(0, .ref 22), (1, .ref 1), (2, .int (iN (za))), (3, .int (iN (zi)))]) (st1 := [.int (iN (1)), .int (iN (za)), .ref 1, .int (iN (zHe G (za) ((zi) + (1))))]) (kr1 := (78, 76)) (h1 := zh) rfl ?_
      refine wp_call (md1 := am_m_Numbers_value) (As := [.ref 1, .int (iN (za)), .int (iN (1))]) (rest := [.int (iN (zHe G (za) ((zi) + (1))))]) (kr1 := (78, 76)) rfl (jt_value_1 _ (by omega) q_nm q_g (zp := za) (zw := 1) (by omega) (by omega)) ?_
      rintro _ _ ⟨rfl, rfl⟩
      refine wp_gt (a := zHe G (za) ((zi) + (1))) (b := G (1) (za)) rfl (by omega) (by omega) (fun b_27 => ?_) (fun b_27 => ?_)
      · refine wp_run (k := 1) (pc1 := 37) (l1 := [(0, .ref 22), (1, .ref 1), (2, .int (iN (za))), (3, .int (iN (zi)))]) (st1 := [.int (iN (zi))]) (kr1 := (78, 76)) (h1 := zh) rfl ?_
        refine wp_ret (rv := some (.int (iN (zi)))) rfl ?_
        refine zk _ ?_
        rw [← q_z]
        exact (zEd_2 (fun z => by
          have z2 := z.1
          rcases z.2 with z1 | z1 | z1 | z1 <;> omega)).symm
      · refine wp_run (k := 2) (pc1 := 2) (l1 := [(0, .ref 22), (1, .ref 1), (2, .int (iN (za))), (3, .int (iN ((zi) + 1)))]) (st1 := []) (kr1 := (78, 76)) (h1 := zh) (Eq.trans (b := (some (2, [(0, .ref 22), (1, .ref 1), (2, .int (iN (za))), (3, .int ((iN (zi)) + iN (1)))], [], (78, 76), zh) : Option am_C)) rfl (by simp only [Int32.ofInt_add, Int32.ofInt_sub, Int32.ofInt_mul, Int32.ofInt_neg])) ?_
        exact z_ih (zi + 1) (by omega) (by rw [← q_z]; exact (zEd_1 (by omega) (Or.inr (Or.inr (Or.inr ⟨rfl, by omega⟩)))).symm) (by omega)
set_option maxRecDepth 20000 in
set_option maxHeartbeats 4000000 in
theorem jt_rbyp (zd : Nat) (q_d : 3 ≤ zd) {zh : am_H} {N : Int} {G : Int → Int → Int} {S T : Int} {za : Int} (zn : Int) (q_nm : zNm (zh.1 1) (zh.1 2) N G S T) (q_g : zGk N G S T) (q_0 : 0 ≤ za ∧ za < N) : am_wp zd am_m_ByRule_endByParts 0 [(0, .ref 22), (1, .ref 1), (2, .int (iN (za)))] [] (78, 76) zh (78, 76) (fun rv h' => rv = some (.int (iN (zEd N G 3 zn za za))) ∧ zh = h') := by
  obtain ⟨zd, rfl⟩ : ∃ y_e, zd = y_e + 3 := ⟨zd - 3, by omega⟩
  have q_N := q_g.1
  refine wp_run (k := 2) (pc1 := 2) (l1 := [(0, .ref 22), (1, .ref 1), (2, .int (iN (za))), (3, .int (iN (za)))]) (st1 := []) (kr1 := (78, 76)) (h1 := zh) rfl ?_
  exact jl_rbyp (zn := zn) _ (by omega) q_nm q_g q_0 (fun zv q_v => ⟨by rw [q_v], rfl⟩) 20 za (by omega) rfl (by omega)
set_option maxRecDepth 20000 in
set_option maxHeartbeats 4000000 in
theorem jt_rend (zd : Nat) (q_d : 4 ≤ zd) {zh : am_H} {N : Int} {G : Int → Int → Int} {S T : Int} {za zr zn : Int} (q_nm : zNm (zh.1 1) (zh.1 2) N G S T) (q_g : zGk N G S T) (q_0 : 0 ≤ za ∧ za < N) (q_r : 0 ≤ zr ∧ zr ≤ 3) (q_n : zr = 1 → 1 ≤ zn ∧ zn ≤ 16) : am_wp zd am_m_ByRule_endOf 0 [(0, .ref 22), (1, .ref 1), (2, .int (iN (za))), (3, .int (iN (zr))), (4, .int (iN (zn)))] [] (78, 76) zh (78, 76) (fun rv h' => rv = some (.int (iN (zEd N G zr zn za za))) ∧ zh = h') := by
  obtain ⟨zd, rfl⟩ : ∃ y_e, zd = y_e + 4 := ⟨zd - 4, by omega⟩
  have q_N := q_g.1
  refine wp_run (k := 1) (pc1 := 1) (l1 := [(0, .ref 22), (1, .ref 1), (2, .int (iN (za))), (3, .int (iN (zr))), (4, .int (iN (zn)))]) (st1 := [.int (iN (zr))]) (kr1 := (78, 76)) (h1 := zh) rfl ?_
  rcases (show zr = 0 ∨ zr = 1 ∨ zr = 2 ∨ (zr < 0 ∨ 2 < zr) by omega) with y_sw | y_sw | y_sw | y_sw
  · refine wp_swc (b := 0) (tg := 28) y_sw rfl (by decide) ?_
    refine wp_run (k := 5) (pc1 := 33) (l1 := [(0, .ref 22), (1, .ref 1), (2, .int (iN (za))), (3, .int (iN (zr))), (4, .int (iN (zn)))]) (st1 := [.int (iN ((za) + (1))), .ref 1, .ref 22]) (kr1 := (78, 76)) (h1 := zh) (Eq.trans (b := (some (33, [(0, .ref 22), (1, .ref 1), (2, .int (iN (za))), (3, .int (iN (zr))), (4, .int (iN (zn)))], [.int ((iN (za)) + (iN (1))), .ref 1, .ref 22], (78, 76), zh) : Option am_C)) rfl (by simp only [Int32.ofInt_add, Int32.ofInt_sub, Int32.ofInt_mul, Int32.ofInt_neg])) ?_
    refine wp_call (md1 := am_m_ByRule_demandFrom) (As := [.ref 22, .ref 1, .int (iN ((za) + (1)))]) (rest := []) (kr1 := (78, 76)) rfl (jt_rfrom _ (by omega) q_nm q_g (zp := (za) + (1)) (by omega)) ?_
    rintro _ _ ⟨rfl, rfl⟩
    refine wp_run (k := 2) (pc1 := 38) (l1 := [(0, .ref 22), (1, .ref 1), (2, .int (iN (za))), (3, .int (iN (zr))), (4, .int (iN (zn)))]) (st1 := [.int (iN ((zNx N G ((za) + (1))) - (1)))]) (kr1 := (78, 76)) (h1 := zh) (Eq.trans (b := (some (38, [(0, .ref 22), (1, .ref 1), (2, .int (iN (za))), (3, .int (iN (zr))), (4, .int (iN (zn)))], [.int ((iN (zNx N G ((za) + (1)))) - (iN (1)))], (78, 76), zh) : Option am_C)) rfl (by simp only [Int32.ofInt_add, Int32.ofInt_sub, Int32.ofInt_mul, Int32.ofInt_neg])) ?_
    refine wp_ret (rv := some (.int (iN ((zNx N G ((za) + (1))) - (1))))) rfl ?_
    exact ⟨by rw [y_sw, ← zEd_each (N - (za + 1)).toNat za (by omega)], rfl⟩
  · refine wp_swc (b := 1) (tg := 39) y_sw rfl (by decide) ?_
    refine wp_run (k := 4) (pc1 := 44) (l1 := [(0, .ref 22), (1, .ref 1), (2, .int (iN (za))), (3, .int (iN (zr))), (4, .int (iN (zn)))]) (st1 := [.ref 1, .int (iN ((za) + (zn)))]) (kr1 := (78, 76)) (h1 := zh) (Eq.trans (b := (some (44, [(0, .ref 22), (1, .ref 1), (2, .int (iN (za))), (3, .int (iN (zr))), (4, .int (iN (zn)))], [.ref 1, .int ((iN (za)) + (iN (zn)))], (78, 76), zh) : Option am_C)) rfl (by simp only [Int32.ofInt_add, Int32.ofInt_sub, Int32.ofInt_mul, Int32.ofInt_neg])) ?_
    refine wp_call (md1 := am_m_Numbers_size) (As := [.ref 1]) (rest := [.int (iN ((za) + (zn)))]) (kr1 := (78, 76)) rfl (jt_size_1 _ (by omega) q_nm q_g) ?_
    rintro _ _ ⟨rfl, rfl⟩
    refine wp_now (rest := [.int (if iN (N) < iN ((za) + (zn)) then iN (N) else iN ((za) + (zn)))]) rfl ?_
    rw [show (if iN (N) < iN ((za) + (zn)) then iN (N) else iN ((za) + (zn))) = iN (min ((za) + (zn)) (N)) from iN_min (by omega) (by omega)]
    refine wp_run (k := 2) (pc1 := 52) (l1 := [(0, .ref 22), (1, .ref 1), (2, .int (iN (za))), (3, .int (iN (zr))), (4, .int (iN (zn)))]) (st1 := [.int (iN ((min ((za) + (zn)) (N)) - (1)))]) (kr1 := (78, 76)) (h1 := zh) (Eq.trans (b := (some (52, [(0, .ref 22), (1, .ref 1), (2, .int (iN (za))), (3, .int (iN (zr))), (4, .int (iN (zn)))], [.int ((iN (min ((za) + (zn)) (N))) - (iN (1)))], (78, 76), zh) : Option am_C)) rfl (by simp only [Int32.ofInt_add, Int32.ofInt_sub, Int32.ofInt_mul, Int32.ofInt_neg])) ?_
    refine wp_ret (rv := some (.int (iN ((min ((za) + (zn)) (N)) - (1))))) rfl ?_
    exact ⟨by rw [y_sw, ← zEd_every (n := zn) (a := za) (N - (za + 1)).toNat za (by omega) (by omega) (by omega)], rfl⟩
  · refine wp_swc (b := 2) (tg := 53) y_sw rfl (by decide) ?_
    refine wp_run (k := 3) (pc1 := 56) (l1 := [(0, .ref 22), (1, .ref 1), (2, .int (iN (za))), (3, .int (iN (zr))), (4, .int (iN (zn)))]) (st1 := [.int (iN (za)), .ref 1, .ref 22]) (kr1 := (78, 76)) (h1 := zh) rfl ?_
    refine wp_call (md1 := am_m_ByRule_endByMean) (As := [.ref 22, .ref 1, .int (iN (za))]) (rest := []) (kr1 := (78, 76)) rfl (jt_rbym _ (by omega) zn q_nm q_g q_0) ?_
    rintro _ _ ⟨rfl, rfl⟩
    refine wp_ret (rv := some (.int (iN (zEd N G 2 zn za za)))) rfl ?_
    exact ⟨by rw [y_sw], rfl⟩
  · refine wp_swd (lo := 0) (hi := 2) (tg := 60) rfl (by omega) y_sw ?_
    refine wp_run (k := 3) (pc1 := 63) (l1 := [(0, .ref 22), (1, .ref 1), (2, .int (iN (za))), (3, .int (iN (zr))), (4, .int (iN (zn)))]) (st1 := [.int (iN (za)), .ref 1, .ref 22]) (kr1 := (78, 76)) (h1 := zh) rfl ?_
    refine wp_call (md1 := am_m_ByRule_endByParts) (As := [.ref 22, .ref 1, .int (iN (za))]) (rest := []) (kr1 := (78, 76)) rfl (jt_rbyp _ (by omega) zn q_nm q_g q_0) ?_
    rintro _ _ ⟨rfl, rfl⟩
    refine wp_ret (rv := some (.int (iN (zEd N G 3 zn za za)))) rfl ?_
    exact ⟨by rw [show zr = 3 by omega], rfl⟩
set_option maxRecDepth 20000 in
set_option maxHeartbeats 4000000 in
theorem jl_rreckon (zd : Nat) (q_d : 5 ≤ zd) {zh : am_H} {N : Int} {G : Int → Int → Int} {S T : Int} {zr zn : Int} {zU : Int × Int × Int32} (q_nm : zNm (zh.1 1) (zh.1 2) N G S T) (q_g : zGk N G S T) (q_r : 0 ≤ zr ∧ zr ≤ 3) (q_n : zr = 1 → 1 ≤ zn ∧ zn ≤ 16) {zQ : Option Value → am_H → Prop} (zk : ∀ zg : am_H, am_fr [22] zh zg → zg.1 22 0 = iN zU.1 → zg.1 22 1 = iN zU.2.1 → zg.1 22 2 = zU.2.2 → zQ none zg) : ∀ (z_n : Nat) (zg : am_H) (zi : Int) (zj : Int) (zc : Int) (zl : Int) (zbe : Int32) (q_f : am_fr [22] zh zg) (q_c : zg.1 22 0 = iN zc) (q_l : zg.1 22 1 = iN zl) (q_be : zg.1 22 2 = zbe) (q_i : 0 ≤ zj ∧ zj ≤ zi ∧ zi ≤ N) (q_u : zRr N G zr zn 16 zi zc zl zbe = zU), N - zi < (z_n : Int) → am_wp zd am_m_ByRule_reckon 26 [(0, .ref 22), (1, .ref 1), (2, .int (iN (zr))), (3, .int (iN (zn))), (4, .int (iN (zi))), (5, .int (iN (zj)))] [] (78, 76) zg (78, 76) zQ := by
  obtain ⟨zd, rfl⟩ : ∃ y_e, zd = y_e + 5 := ⟨zd - 5, by omega⟩
  intro z_n
  induction z_n with
  | zero => intro zg zi zj zc zl zbe q_f q_c q_l q_be q_i q_u q_m; omega
  | succ z_n z_ih =>
    intro zg zi zj zc zl zbe q_f q_c q_l q_be q_i q_u q_m
    have q_N := q_g.1
    refine wp_run (k := 2) (pc1 := 30) (l1 := [(0, .ref 22), (1, .ref 1), (2, .int (iN (zr))), (3, .int (iN (zn))), (4, .int (iN (zi))), (5, .int (iN (zj)))]) (st1 := [.int (iN (16)), .int (iN (zj))]) (kr1 := (78, 76)) (h1 := zg) rfl ?_
    refine wp_ge (a := zj) (b := 16) rfl (by omega) (by omega) (fun b_30 => ?_) (fun b_30 => ?_)
    · refine wp_ret (rv := none) rfl ?_
      have y_u := (zRr_0 (G := G) (r := zr) (n := zn) (c := zc) (l := zl) (be := zbe) (show N ≤ zi by omega)).symm.trans q_u
      subst y_u
      exact zk zg q_f q_c q_l q_be
    · refine wp_run (k := 2) (pc1 := 36) (l1 := [(0, .ref 22), (1, .ref 1), (2, .int (iN (zr))), (3, .int (iN (zn))), (4, .int (iN (zi))), (5, .int (iN (zj)))]) (st1 := [.ref 1, .int (iN (zi))]) (kr1 := (78, 76)) (h1 := zg) rfl ?_
      refine wp_call (md1 := am_m_Numbers_size) (As := [.ref 1]) (rest := [.int (iN (zi))]) (kr1 := (78, 76)) rfl (jt_size_1 _ (by omega) (zNm_f (ks := [22]) (zg := zg) (q_f) q_nm (by decide) (by decide)) q_g) ?_
      rintro _ _ ⟨rfl, rfl⟩
      refine wp_ge (a := zi) (b := N) rfl (by omega) (by omega) (fun b_39 => ?_) (fun b_39 => ?_)
      · refine wp_ret (rv := none) rfl ?_
        have y_u := (zRr_0 (G := G) (r := zr) (n := zn) (c := zc) (l := zl) (be := zbe) (show N ≤ zi by omega)).symm.trans q_u
        subst y_u
        exact zk zg q_f q_c q_l q_be
      · have y_e := zEd_rg N G zr zn zi zi (by omega)
        have y_x := zNx_rg N G (zEd N G zr zn zi zi + 1)
        refine wp_run (k := 6) (pc1 := 50) (l1 := [(0, .ref 22), (1, .ref 1), (2, .int (iN (zr))), (3, .int (iN (zn))), (4, .int (iN (zi))), (5, .int (iN (zj)))]) (st1 := [.int (iN (zn)), .int (iN (zr)), .int (iN (zi)), .ref 1, .ref 22, .int (iN (zi))]) (kr1 := (78, 76)) (h1 := zg) rfl ?_
        refine wp_call (md1 := am_m_ByRule_endOf) (As := [.ref 22, .ref 1, .int (iN (zi)), .int (iN (zr)), .int (iN (zn))]) (rest := [.int (iN (zi))]) (kr1 := (78, 76)) rfl (jt_rend _ (by omega) (zNm_f (ks := [22]) (zg := zg) (q_f) q_nm (by decide) (by decide)) q_g (za := zi) (zr := zr) (zn := zn) (by omega) q_r q_n) ?_
        rintro _ _ ⟨rfl, rfl⟩
        refine wp_now (rest := [.int (if iN (zi) < iN (zEd N G zr zn zi zi) then iN (zEd N G zr zn zi zi) else iN (zi))]) rfl ?_
        rw [show (if iN (zi) < iN (zEd N G zr zn zi zi) then iN (zEd N G zr zn zi zi) else iN (zi)) = iN (max (zi) (zEd N G zr zn zi zi)) from iN_max (by omega) (by omega)]
        rw [show max (zi) (zEd N G zr zn zi zi) = zEd N G zr zn zi zi by omega]
        refine wp_run (k := 7) (pc1 := 67) (l1 := [(0, .ref 22), (1, .ref 1), (2, .int (iN (zr))), (3, .int (iN (zn))), (4, .int (iN (zi))), (5, .int (iN (zj))), (6, .int (iN (zEd N G zr zn zi zi)))]) (st1 := [.int (iN (1)), .int (iN (zi)), .ref 1, .int (iN (zc)), .ref 22]) (kr1 := (78, 76)) (h1 := zg) (Eq.trans (b := (some (67, [(0, .ref 22), (1, .ref 1), (2, .int (iN (zr))), (3, .int (iN (zn))), (4, .int (iN (zi))), (5, .int (iN (zj))), (6, .int (iN (zEd N G zr zn zi zi)))], [.int (iN (1)), .int (iN (zi)), .ref 1, .int (zg.1 22 0), .ref 22], (78, 76), zg) : Option am_C)) rfl (by simp only [(show (zg).1 22 0 = iN (zc) from q_c), Int32.ofInt_add, Int32.ofInt_sub, Int32.ofInt_mul, Int32.ofInt_neg])) ?_
        refine wp_call (md1 := am_m_Numbers_value) (As := [.ref 1, .int (iN (zi)), .int (iN (1))]) (rest := [.int (iN (zc)), .ref 22]) (kr1 := (78, 76)) rfl (jt_value_1 _ (by omega) (zNm_f (ks := [22]) (zg := zg) (q_f) q_nm (by decide) (by decide)) q_g (zp := zi) (zw := 1) (by omega) (by omega)) ?_
        rintro _ _ ⟨rfl, rfl⟩
        refine wp_run (k := 3) (pc1 := 74) (l1 := [(0, .ref 22), (1, .ref 1), (2, .int (iN (zr))), (3, .int (iN (zn))), (4, .int (iN (zi))), (5, .int (iN (zj))), (6, .int (iN (zEd N G zr zn zi zi)))]) (st1 := [.int (iN (2)), .int (iN (zi)), .ref 1, .int (iN (G (1) (zi))), .int (iN (zc)), .ref 22]) (kr1 := (78, 76)) (h1 := zg) rfl ?_
        refine wp_call (md1 := am_m_Numbers_value) (As := [.ref 1, .int (iN (zi)), .int (iN (2))]) (rest := [.int (iN (G (1) (zi))), .int (iN (zc)), .ref 22]) (kr1 := (78, 76)) rfl (jt_value_1 _ (by omega) (zNm_f (ks := [22]) (zg := zg) (q_f) q_nm (by decide) (by decide)) q_g (zp := zi) (zw := 2) (by omega) (by omega)) ?_
        rintro _ _ ⟨rfl, rfl⟩
        refine wp_run (k := 3) (pc1 := 82) (l1 := [(0, .ref 22), (1, .ref 1), (2, .int (iN (zr))), (3, .int (iN (zn))), (4, .int (iN (zi))), (5, .int (iN (zj))), (6, .int (iN (zEd N G zr zn zi zi)))]) (st1 := [.int (iN (zEd N G zr zn zi zi)), .int (iN (zi)), .ref 1, .int (iN (G (2) (zi))), .int (iN (G (1) (zi))), .int (iN (zc)), .ref 22]) (kr1 := (78, 76)) (h1 := zg) rfl ?_
        refine wp_call (md1 := am_m_Numbers_pieces) (As := [.ref 1, .int (iN (zi)), .int (iN (zEd N G zr zn zi zi))]) (rest := [.int (iN (G (2) (zi))), .int (iN (G (1) (zi))), .int (iN (zc)), .ref 22]) (kr1 := (78, 76)) rfl (jt_pieces_1 _ (by omega) (zNm_f (ks := [22]) (zg := zg) (q_f) q_nm (by decide) (by decide)) q_g (za := zi) (zb := zEd N G zr zn zi zi) (by omega)) ?_
        rintro _ _ ⟨rfl, rfl⟩
        refine wp_run (k := 6) (pc1 := 93) (l1 := [(0, .ref 22), (1, .ref 1), (2, .int (iN (zr))), (3, .int (iN (zn))), (4, .int (iN (zi))), (5, .int (iN (zj))), (6, .int (iN (zEd N G zr zn zi zi)))]) (st1 := [.int (iN (zEd N G zr zn zi zi)), .int (iN (zi)), .ref 1, .ref 22, .int (iN ((G (1) (zi)) + ((G (2) (zi)) * (zD G (zi) (zEd N G zr zn zi zi))))), .int (iN (zc)), .ref 22]) (kr1 := (78, 76)) (h1 := zg) (Eq.trans (b := (some (93, [(0, .ref 22), (1, .ref 1), (2, .int (iN (zr))), (3, .int (iN (zn))), (4, .int (iN (zi))), (5, .int (iN (zj))), (6, .int (iN (zEd N G zr zn zi zi)))], [.int (iN (zEd N G zr zn zi zi)), .int (iN (zi)), .ref 1, .ref 22, .int ((iN (G (1) (zi))) + ((iN (G (2) (zi))) * (iN (zD G (zi) (zEd N G zr zn zi zi))))), .int (iN (zc)), .ref 22], (78, 76), zg) : Option am_C)) rfl (by simp only [Int32.ofInt_add, Int32.ofInt_sub, Int32.ofInt_mul, Int32.ofInt_neg])) ?_
        refine wp_call (md1 := am_m_ByRule_held) (As := [.ref 22, .ref 1, .int (iN (zi)), .int (iN (zEd N G zr zn zi zi))]) (rest := [.int (iN ((G (1) (zi)) + ((G (2) (zi)) * (zD G (zi) (zEd N G zr zn zi zi))))), .int (iN (zc)), .ref 22]) (kr1 := (78, 76)) rfl (jt_rheld _ (by omega) (zNm_f (ks := [22]) (zg := zg) (q_f) q_nm (by decide) (by decide)) q_g (za := zi) (zb := zEd N G zr zn zi zi) (by omega)) ?_
        rintro _ _ ⟨rfl, rfl⟩
        refine wp_run (k := 2) (pc1 := 98) (l1 := [(0, .ref 22), (1, .ref 1), (2, .int (iN (zr))), (3, .int (iN (zn))), (4, .int (iN (zi))), (5, .int (iN (zj))), (6, .int (iN (zEd N G zr zn zi zi)))]) (st1 := [.int (iN ((zc) + (((G (1) (zi)) + ((G (2) (zi)) * (zD G (zi) (zEd N G zr zn zi zi)))) + (zHe G (zi) (zEd N G zr zn zi zi))))), .ref 22]) (kr1 := (78, 76)) (h1 := zg) (Eq.trans (b := (some (98, [(0, .ref 22), (1, .ref 1), (2, .int (iN (zr))), (3, .int (iN (zn))), (4, .int (iN (zi))), (5, .int (iN (zj))), (6, .int (iN (zEd N G zr zn zi zi)))], [.int ((iN (zc)) + ((iN ((G (1) (zi)) + ((G (2) (zi)) * (zD G (zi) (zEd N G zr zn zi zi))))) + (iN (zHe G (zi) (zEd N G zr zn zi zi))))), .ref 22], (78, 76), zg) : Option am_C)) rfl (by simp only [Int32.ofInt_add, Int32.ofInt_sub, Int32.ofInt_mul, Int32.ofInt_neg])) ?_
        refine wp_run (k := 6) (pc1 := 108) (l1 := [(0, .ref 22), (1, .ref 1), (2, .int (iN (zr))), (3, .int (iN (zn))), (4, .int (iN (zi))), (5, .int (iN (zj))), (6, .int (iN (zEd N G zr zn zi zi)))]) (st1 := [.int (iN ((zl) + (1))), .ref 22]) (kr1 := (78, 76)) (h1 := am_wr zg 22 0 (iN ((zc) + (((G (1) (zi)) + ((G (2) (zi)) * (zD G (zi) (zEd N G zr zn zi zi)))) + (zHe G (zi) (zEd N G zr zn zi zi)))))) (Eq.trans (b := (some (108, [(0, .ref 22), (1, .ref 1), (2, .int (iN (zr))), (3, .int (iN (zn))), (4, .int (iN (zi))), (5, .int (iN (zj))), (6, .int (iN (zEd N G zr zn zi zi)))], [.int (((am_wr zg 22 0 (iN ((zc) + (((G (1) (zi)) + ((G (2) (zi)) * (zD G (zi) (zEd N G zr zn zi zi)))) + (zHe G (zi) (zEd N G zr zn zi zi)))))).1 22 1) + (iN (1))), .ref 22], (78, 76), am_wr zg 22 0 (iN ((zc) + (((G (1) (zi)) + ((G (2) (zi)) * (zD G (zi) (zEd N G zr zn zi zi)))) + (zHe G (zi) (zEd N G zr zn zi zi)))))) : Option am_C)) rfl (by simp only [(show (am_wr zg 22 0 (iN ((zc) + (((G (1) (zi)) + ((G (2) (zi)) * (zD G (zi) (zEd N G zr zn zi zi)))) + (zHe G (zi) (zEd N G zr zn zi zi)))))).1 22 1 = iN (zl) from (am_wr_no (by decide)).trans (q_l))]; try simp only [Int32.ofInt_add, Int32.ofInt_sub, Int32.ofInt_mul, Int32.ofInt_neg])) ?_
        refine wp_run (k := 14) (pc1 := 130) (l1 := [(0, .ref 22), (1, .ref 1), (2, .int (iN (zr))), (3, .int (iN (zn))), (4, .int (iN (zi))), (5, .int (iN (zj))), (6, .int (iN (zEd N G zr zn zi zi)))]) (st1 := [.int (iN ((zEd N G zr zn zi zi) + (1))), .ref 1, .ref 22]) (kr1 := (78, 76)) (h1 := am_wr (am_wr (am_wr zg 22 0 (iN ((zc) + (((G (1) (zi)) + ((G (2) (zi)) * (zD G (zi) (zEd N G zr zn zi zi)))) + (zHe G (zi) (zEd N G zr zn zi zi)))))) 22 1 (iN ((zl) + (1)))) 22 2 (((am_wr (am_wr zg 22 0 (iN ((zc) + (((G (1) (zi)) + ((G (2) (zi)) * (zD G (zi) (zEd N G zr zn zi zi)))) + (zHe G (zi) (zEd N G zr zn zi zi)))))) 22 1 (iN ((zl) + (1)))).1 22 2) ||| ((iN (1)) <<< ((iN (zi)) &&& 31)))) (Eq.trans (b := (some (130, [(0, .ref 22), (1, .ref 1), (2, .int (iN (zr))), (3, .int (iN (zn))), (4, .int (iN (zi))), (5, .int (iN (zj))), (6, .int (iN (zEd N G zr zn zi zi)))], [.int ((iN (zEd N G zr zn zi zi)) + (iN (1))), .ref 1, .ref 22], (78, 76), am_wr (am_wr (am_wr zg 22 0 (iN ((zc) + (((G (1) (zi)) + ((G (2) (zi)) * (zD G (zi) (zEd N G zr zn zi zi)))) + (zHe G (zi) (zEd N G zr zn zi zi)))))) 22 1 (iN ((zl) + (1)))) 22 2 (((am_wr (am_wr zg 22 0 (iN ((zc) + (((G (1) (zi)) + ((G (2) (zi)) * (zD G (zi) (zEd N G zr zn zi zi)))) + (zHe G (zi) (zEd N G zr zn zi zi)))))) 22 1 (iN ((zl) + (1)))).1 22 2) ||| ((iN (1)) <<< ((iN (zi)) &&& 31)))) : Option am_C)) rfl (by simp only [Int32.ofInt_add, Int32.ofInt_sub, Int32.ofInt_mul, Int32.ofInt_neg])) ?_
        refine wp_call (md1 := am_m_ByRule_demandFrom) (As := [.ref 22, .ref 1, .int (iN ((zEd N G zr zn zi zi) + (1)))]) (rest := []) (kr1 := (78, 76)) rfl (jt_rfrom _ (by omega) (zNm_f (ks := [22]) (zg := am_wr (am_wr (am_wr zg 22 0 (iN ((zc) + (((G (1) (zi)) + ((G (2) (zi)) * (zD G (zi) (zEd N G zr zn zi zi)))) + (zHe G (zi) (zEd N G zr zn zi zi)))))) 22 1 (iN ((zl) + (1)))) 22 2 (((am_wr (am_wr zg 22 0 (iN ((zc) + (((G (1) (zi)) + ((G (2) (zi)) * (zD G (zi) (zEd N G zr zn zi zi)))) + (zHe G (zi) (zEd N G zr zn zi zi)))))) 22 1 (iN ((zl) + (1)))).1 22 2) ||| ((iN (1)) <<< ((iN (zi)) &&& 31)))) (am_fr_w (am_fr_w (am_fr_w (q_f) (by decide) _ _) (by decide) _ _) (by decide) _ _) q_nm (by decide) (by decide)) q_g (zp := (zEd N G zr zn zi zi) + (1)) (by omega)) ?_
        rintro _ _ ⟨rfl, rfl⟩
        refine wp_run (k := 3) (pc1 := 26) (l1 := [(0, .ref 22), (1, .ref 1), (2, .int (iN (zr))), (3, .int (iN (zn))), (4, .int (iN (zNx N G ((zEd N G zr zn zi zi) + (1))))), (5, .int (iN ((zj) + 1))), (6, .int (iN (zEd N G zr zn zi zi)))]) (st1 := []) (kr1 := (78, 76)) (h1 := am_wr (am_wr (am_wr zg 22 0 (iN ((zc) + (((G (1) (zi)) + ((G (2) (zi)) * (zD G (zi) (zEd N G zr zn zi zi)))) + (zHe G (zi) (zEd N G zr zn zi zi)))))) 22 1 (iN ((zl) + (1)))) 22 2 (((am_wr (am_wr zg 22 0 (iN ((zc) + (((G (1) (zi)) + ((G (2) (zi)) * (zD G (zi) (zEd N G zr zn zi zi)))) + (zHe G (zi) (zEd N G zr zn zi zi)))))) 22 1 (iN ((zl) + (1)))).1 22 2) ||| ((iN (1)) <<< ((iN (zi)) &&& 31)))) (Eq.trans (b := (some (26, [(0, .ref 22), (1, .ref 1), (2, .int (iN (zr))), (3, .int (iN (zn))), (4, .int (iN (zNx N G ((zEd N G zr zn zi zi) + (1))))), (5, .int ((iN (zj)) + iN (1))), (6, .int (iN (zEd N G zr zn zi zi)))], [], (78, 76), am_wr (am_wr (am_wr zg 22 0 (iN ((zc) + (((G (1) (zi)) + ((G (2) (zi)) * (zD G (zi) (zEd N G zr zn zi zi)))) + (zHe G (zi) (zEd N G zr zn zi zi)))))) 22 1 (iN ((zl) + (1)))) 22 2 (((am_wr (am_wr zg 22 0 (iN ((zc) + (((G (1) (zi)) + ((G (2) (zi)) * (zD G (zi) (zEd N G zr zn zi zi)))) + (zHe G (zi) (zEd N G zr zn zi zi)))))) 22 1 (iN ((zl) + (1)))).1 22 2) ||| ((iN (1)) <<< ((iN (zi)) &&& 31)))) : Option am_C)) rfl (by simp only [Int32.ofInt_add, Int32.ofInt_sub, Int32.ofInt_mul, Int32.ofInt_neg])) ?_
        refine wp_drop [6] (l := [(0, .ref 22), (1, .ref 1), (2, .int (iN (zr))), (3, .int (iN (zn))), (4, .int (iN (zNx N G ((zEd N G zr zn zi zi) + (1))))), (5, .int (iN ((zj) + 1)))]) rfl rfl ?_
        have y_be : (am_wr (am_wr zg 22 0 (iN ((zc) + (((G (1) (zi)) + ((G (2) (zi)) * (zD G (zi) (zEd N G zr zn zi zi)))) + (zHe G (zi) (zEd N G zr zn zi zi)))))) 22 1 (iN ((zl) + (1)))).1 22 2 = zbe := (am_wr_no (by decide)).trans ((am_wr_no (by decide)).trans q_be)
        refine z_ih (am_wr (am_wr (am_wr zg 22 0 (iN ((zc) + (((G (1) (zi)) + ((G (2) (zi)) * (zD G (zi) (zEd N G zr zn zi zi)))) + (zHe G (zi) (zEd N G zr zn zi zi)))))) 22 1 (iN ((zl) + (1)))) 22 2 (((am_wr (am_wr zg 22 0 (iN ((zc) + (((G (1) (zi)) + ((G (2) (zi)) * (zD G (zi) (zEd N G zr zn zi zi)))) + (zHe G (zi) (zEd N G zr zn zi zi)))))) 22 1 (iN ((zl) + (1)))).1 22 2) ||| ((iN (1)) <<< ((iN (zi)) &&& 31)))) (zNx N G ((zEd N G zr zn zi zi) + (1))) ((zj) + 1) (zc + zCo G zi (zEd N G zr zn zi zi) zi) (zl + 1) (zbe ||| (iN 1 <<< (iN zi &&& 31))) (am_fr_w (am_fr_w (am_fr_w (q_f) (by decide) _ _) (by decide) _ _) (by decide) _ _) ?_ ?_ ?_ (by omega) ?_ (by omega)
        · rw [am_wr_no (by decide), am_wr_no (by decide), am_wr_at]; exact congrArg iN (by rw [zCo_self])
        · rw [am_wr_no (by decide), am_wr_at]
        · rw [am_wr_at, y_be]
        · rw [← zRr_1 (r := zr) (n := zn) q_N.2 (by omega) (by omega)]; exact q_u
set_option maxRecDepth 20000 in
set_option maxHeartbeats 4000000 in
theorem jt_rreckon (zd : Nat) (q_d : 5 ≤ zd) {zh : am_H} {N : Int} {G : Int → Int → Int} {S T : Int} {zr zn : Int} (q_nm : zNm (zh.1 1) (zh.1 2) N G S T) (q_g : zGk N G S T) (q_r : 0 ≤ zr ∧ zr ≤ 3) (q_n : zr = 1 → 1 ≤ zn ∧ zn ≤ 16) : am_wp zd am_m_ByRule_reckon 0 [(0, .ref 22), (1, .ref 1), (2, .int (iN (zr))), (3, .int (iN (zn)))] [] (78, 76) zh (78, 76) (fun rv h' => rv = none ∧ am_fr [22] zh h' ∧ h'.1 22 0 = iN (zRu N G zr zn).1 ∧ h'.1 22 1 = iN (zRu N G zr zn).2.1 ∧ h'.1 22 2 = (zRu N G zr zn).2.2) := by
  obtain ⟨zd, rfl⟩ : ∃ y_e, zd = y_e + 5 := ⟨zd - 5, by omega⟩
  have q_N := q_g.1
  refine wp_run (k := 12) (pc1 := 18) (l1 := [(0, .ref 22), (1, .ref 1), (2, .int (iN (zr))), (3, .int (iN (zn)))]) (st1 := [.int (iN (0)), .ref 1, .ref 22]) (kr1 := (78, 76)) (h1 := am_wr (am_wr (am_wr zh 22 0 (iN (0))) 22 1 (iN (0))) 22 2 (iN (0))) rfl ?_
  refine wp_call (md1 := am_m_ByRule_demandFrom) (As := [.ref 22, .ref 1, .int (iN (0))]) (rest := []) (kr1 := (78, 76)) rfl (jt_rfrom _ (by omega) (zNm_f (ks := [22]) (am_fr_w (am_fr_w (am_fr_w (am_fr_0 _ _) (by decide) _ _) (by decide) _ _) (by decide) _ _) q_nm (by decide) (by decide)) q_g (zp := 0) (by omega)) ?_
  rintro _ _ ⟨rfl, rfl⟩
  refine wp_run (k := 3) (pc1 := 26) (l1 := [(0, .ref 22), (1, .ref 1), (2, .int (iN (zr))), (3, .int (iN (zn))), (4, .int (iN (zNx N G (0)))), (5, .int (iN (0)))]) (st1 := []) (kr1 := (78, 76)) (h1 := am_wr (am_wr (am_wr zh 22 0 (iN (0))) 22 1 (iN (0))) 22 2 (iN (0))) rfl ?_
  have y_x := zNx_rg N G 0
  exact jl_rreckon (zh := zh) _ (by omega) q_nm q_g q_r q_n (fun zg y1 y2 y3 y4 => ⟨rfl, y1, y2, y3, y4⟩) 20 (am_wr (am_wr (am_wr zh 22 0 (iN (0))) 22 1 (iN (0))) 22 2 (iN (0))) (zNx N G 0) 0 0 0 0 (am_fr_w (am_fr_w (am_fr_w (am_fr_0 _ _) (by decide) _ _) (by decide) _ _) (by decide) _ _) (by rw [am_wr_no (by decide), am_wr_no (by decide), am_wr_at]) (by rw [am_wr_no (by decide), am_wr_at]) (by rw [am_wr_at]; rfl) (by omega) rfl (by omega)
