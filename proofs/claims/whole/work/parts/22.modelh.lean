/-! THE REFERENCE: by hand, calm -/
theorem iN_and1 {P1 P2 : Prop} (q1 : Decidable P1) (q2 : Decidable P2) : iN (bI P1 q1) &&& iN (bI P2 q2) = iN (bI (P1 ∧ P2) (@instDecidableAnd P1 P2 q1 q2)) := by
  by_cases y1 : P1 <;> by_cases y2 : P2
  · rw [show bI P1 q1 = 1 from if_pos y1, show bI P2 q2 = 1 from if_pos y2, show bI (P1 ∧ P2) _ = 1 from if_pos ⟨y1, y2⟩]; decide
  · rw [show bI P1 q1 = 1 from if_pos y1, show bI P2 q2 = 0 from if_neg y2, show bI (P1 ∧ P2) _ = 0 from if_neg (fun y => y2 y.2)]; decide
  · rw [show bI P1 q1 = 0 from if_neg y1, show bI P2 q2 = 1 from if_pos y2, show bI (P1 ∧ P2) _ = 0 from if_neg (fun y => y1 y.1)]; decide
  · rw [show bI P1 q1 = 0 from if_neg y1, show bI P2 q2 = 0 from if_neg y2, show bI (P1 ∧ P2) _ = 0 from if_neg (fun y => y1 y.1)]; decide
set_option maxRecDepth 20000 in
set_option maxHeartbeats 4000000 in
theorem jl_stock_57 (zd : Nat) (q_d : 1 ≤ zd) {zh : am_H} {N : Int} {G : Int → Int → Int} {S T : Int} {B : Int → Int} {zp : Int} (q_nm : zMm (zh.1 55) (zh.1 56) N G S T) (q_g : zGk N G S T) (q_hd : zHd (zh.1 57) B N) (q_p : 0 ≤ zp ∧ zp < N) {zQ : Option Value → am_H → Prop} (zk : ∀ zv : Int, zv = zSt G B zp → zQ (some (.int (iN zv))) zh) : ∀ (z_n : Nat) (zi : Int) (zs : Int) (q_i : 0 ≤ zi ∧ zi ≤ zp + 1) (q_z : zs = zSi B zi - zPi G zi), zp + 1 - zi < (z_n : Int) → am_wp zd am_m_Model_stock 5 [(0, .ref 55), (1, .ref 57), (2, .int (iN (zp))), (3, .int (iN (zs))), (4, .int (iN (zi)))] [] (78, 76) zh (78, 76) zQ := by
  obtain ⟨zd, rfl⟩ : ∃ y_e, zd = y_e + 1 := ⟨zd - 1, by omega⟩
  intro z_n
  induction z_n with
  | zero => intro zi zs q_i q_z q_m; omega
  | succ z_n z_ih =>
    intro zi zs q_i q_z q_m
    have q_N := q_g.1
    refine wp_run (k := 2) (pc1 := 8) (l1 := [(0, .ref 55), (1, .ref 57), (2, .int (iN (zp))), (3, .int (iN (zs))), (4, .int (iN (zi)))]) (st1 := [.int (iN (zp)), .int (iN (zi))]) (kr1 := (78, 76)) (h1 := zh) rfl ?_
    refine wp_gt (a := zi) (b := zp) rfl (by omega) (by omega) (fun b_8 => ?_) (fun b_8 => ?_)
    · refine wp_run (k := 1) (pc1 := 33) (l1 := [(0, .ref 55), (1, .ref 57), (2, .int (iN (zp))), (3, .int (iN (zs))), (4, .int (iN (zi)))]) (st1 := [.int (iN (zs))]) (kr1 := (78, 76)) (h1 := zh) rfl ?_
      refine wp_ret (rv := some (.int (iN (zs)))) rfl ?_
      refine zk _ ?_
      rw [q_z, show zi = zp + 1 by omega]; rfl
    · refine wp_run (k := 3) (pc1 := 15) (l1 := [(0, .ref 55), (1, .ref 57), (2, .int (iN (zp))), (3, .int (iN (zs))), (4, .int (iN (zi)))]) (st1 := [.int (iN (zi)), .ref 57, .int (iN (zs))]) (kr1 := (78, 76)) (h1 := zh) rfl ?_
      refine wp_iald (f := zh.1 57) (z := zi) (j := zi.toNat) (n := 16) (v := iN (B zi)) rfl rfl (by omega) (by omega) (by decide) (q_hd zi (by omega) (by omega)) ?_
      refine wp_run (k := 3) (pc1 := 20) (l1 := [(0, .ref 55), (1, .ref 57), (2, .int (iN (zp))), (3, .int (iN (zs))), (4, .int (iN (zi)))]) (st1 := [.int (iN (zi)), .int (iN (0)), .ref 55, .int (iN (B zi)), .int (iN (zs))]) (kr1 := (78, 76)) (h1 := zh) rfl ?_
      refine wp_call (md1 := am_m_Model_num) (As := [.ref 55, .int (iN (0)), .int (iN (zi))]) (rest := [.int (iN (B zi)), .int (iN (zs))]) (kr1 := (78, 76)) rfl (jm_num _ (by omega) q_nm q_g (zw := 0) (zp := zi) (by omega) (by omega)) ?_
      rintro _ _ ⟨rfl, rfl⟩
      refine wp_run (k := 5) (pc1 := 5) (l1 := [(0, .ref 55), (1, .ref 57), (2, .int (iN (zp))), (3, .int (iN ((zs) + ((B zi) - (G (0) (zi)))))), (4, .int (iN ((zi) + 1)))]) (st1 := []) (kr1 := (78, 76)) (h1 := zh) (Eq.trans (b := (some (5, [(0, .ref 55), (1, .ref 57), (2, .int (iN (zp))), (3, .int ((iN (zs)) + ((iN (B zi)) - (iN (G (0) (zi)))))), (4, .int ((iN (zi)) + iN (1)))], [], (78, 76), zh) : Option am_C)) rfl (by simp only [Int32.ofInt_add, Int32.ofInt_sub, Int32.ofInt_mul, Int32.ofInt_neg])) ?_
      exact z_ih ((zi) + 1) ((zs) + ((B zi) - (G (0) (zi)))) (by omega) (by rw [q_z, zSi_s B zi (by omega), zPi_s G zi (by omega)]; omega) (by omega)
set_option maxRecDepth 20000 in
set_option maxHeartbeats 4000000 in
theorem jm_stock_57 (zd : Nat) (q_d : 1 ≤ zd) {zh : am_H} {N : Int} {G : Int → Int → Int} {S T : Int} {B : Int → Int} {zp : Int} (q_nm : zMm (zh.1 55) (zh.1 56) N G S T) (q_g : zGk N G S T) (q_hd : zHd (zh.1 57) B N) (q_p : 0 ≤ zp ∧ zp < N) : am_wp zd am_m_Model_stock 0 [(0, .ref 55), (1, .ref 57), (2, .int (iN (zp)))] [] (78, 76) zh (78, 76) (fun rv h' => rv = some (.int (iN (zSt G B zp))) ∧ zh = h') := by
  obtain ⟨zd, rfl⟩ : ∃ y_e, zd = y_e + 1 := ⟨zd - 1, by omega⟩
  have q_N := q_g.1
  refine wp_run (k := 4) (pc1 := 5) (l1 := [(0, .ref 55), (1, .ref 57), (2, .int (iN (zp))), (3, .int (iN (0))), (4, .int (iN (0)))]) (st1 := []) (kr1 := (78, 76)) (h1 := zh) rfl ?_
  exact jl_stock_57 _ (by omega) q_nm q_g q_hd q_p (fun zv q_v => ⟨by rw [q_v], rfl⟩) (zp + 2).toNat 0 0 (by omega) rfl (by omega)
set_option maxRecDepth 20000 in
set_option maxHeartbeats 4000000 in
theorem jl_stock_66 (zd : Nat) (q_d : 1 ≤ zd) {zh : am_H} {N : Int} {G : Int → Int → Int} {S T : Int} {B : Int → Int} {zp : Int} (q_nm : zMm (zh.1 55) (zh.1 56) N G S T) (q_g : zGk N G S T) (q_hd : zHd (zh.1 66) B N) (q_p : 0 ≤ zp ∧ zp < N) {zQ : Option Value → am_H → Prop} (zk : ∀ zv : Int, zv = zSt G B zp → zQ (some (.int (iN zv))) zh) : ∀ (z_n : Nat) (zi : Int) (zs : Int) (q_i : 0 ≤ zi ∧ zi ≤ zp + 1) (q_z : zs = zSi B zi - zPi G zi), zp + 1 - zi < (z_n : Int) → am_wp zd am_m_Model_stock 5 [(0, .ref 55), (1, .ref 66), (2, .int (iN (zp))), (3, .int (iN (zs))), (4, .int (iN (zi)))] [] (78, 76) zh (78, 76) zQ := by
  obtain ⟨zd, rfl⟩ : ∃ y_e, zd = y_e + 1 := ⟨zd - 1, by omega⟩
  intro z_n
  induction z_n with
  | zero => intro zi zs q_i q_z q_m; omega
  | succ z_n z_ih =>
    intro zi zs q_i q_z q_m
    have q_N := q_g.1
    refine wp_run (k := 2) (pc1 := 8) (l1 := [(0, .ref 55), (1, .ref 66), (2, .int (iN (zp))), (3, .int (iN (zs))), (4, .int (iN (zi)))]) (st1 := [.int (iN (zp)), .int (iN (zi))]) (kr1 := (78, 76)) (h1 := zh) rfl ?_
    refine wp_gt (a := zi) (b := zp) rfl (by omega) (by omega) (fun b_8 => ?_) (fun b_8 => ?_)
    · refine wp_run (k := 1) (pc1 := 33) (l1 := [(0, .ref 55), (1, .ref 66), (2, .int (iN (zp))), (3, .int (iN (zs))), (4, .int (iN (zi)))]) (st1 := [.int (iN (zs))]) (kr1 := (78, 76)) (h1 := zh) rfl ?_
      refine wp_ret (rv := some (.int (iN (zs)))) rfl ?_
      refine zk _ ?_
      rw [q_z, show zi = zp + 1 by omega]; rfl
    · refine wp_run (k := 3) (pc1 := 15) (l1 := [(0, .ref 55), (1, .ref 66), (2, .int (iN (zp))), (3, .int (iN (zs))), (4, .int (iN (zi)))]) (st1 := [.int (iN (zi)), .ref 66, .int (iN (zs))]) (kr1 := (78, 76)) (h1 := zh) rfl ?_
      refine wp_iald (f := zh.1 66) (z := zi) (j := zi.toNat) (n := 16) (v := iN (B zi)) rfl rfl (by omega) (by omega) (by decide) (q_hd zi (by omega) (by omega)) ?_
      refine wp_run (k := 3) (pc1 := 20) (l1 := [(0, .ref 55), (1, .ref 66), (2, .int (iN (zp))), (3, .int (iN (zs))), (4, .int (iN (zi)))]) (st1 := [.int (iN (zi)), .int (iN (0)), .ref 55, .int (iN (B zi)), .int (iN (zs))]) (kr1 := (78, 76)) (h1 := zh) rfl ?_
      refine wp_call (md1 := am_m_Model_num) (As := [.ref 55, .int (iN (0)), .int (iN (zi))]) (rest := [.int (iN (B zi)), .int (iN (zs))]) (kr1 := (78, 76)) rfl (jm_num _ (by omega) q_nm q_g (zw := 0) (zp := zi) (by omega) (by omega)) ?_
      rintro _ _ ⟨rfl, rfl⟩
      refine wp_run (k := 5) (pc1 := 5) (l1 := [(0, .ref 55), (1, .ref 66), (2, .int (iN (zp))), (3, .int (iN ((zs) + ((B zi) - (G (0) (zi)))))), (4, .int (iN ((zi) + 1)))]) (st1 := []) (kr1 := (78, 76)) (h1 := zh) (Eq.trans (b := (some (5, [(0, .ref 55), (1, .ref 66), (2, .int (iN (zp))), (3, .int ((iN (zs)) + ((iN (B zi)) - (iN (G (0) (zi)))))), (4, .int ((iN (zi)) + iN (1)))], [], (78, 76), zh) : Option am_C)) rfl (by simp only [Int32.ofInt_add, Int32.ofInt_sub, Int32.ofInt_mul, Int32.ofInt_neg])) ?_
      exact z_ih ((zi) + 1) ((zs) + ((B zi) - (G (0) (zi)))) (by omega) (by rw [q_z, zSi_s B zi (by omega), zPi_s G zi (by omega)]; omega) (by omega)
set_option maxRecDepth 20000 in
set_option maxHeartbeats 4000000 in
theorem jm_stock_66 (zd : Nat) (q_d : 1 ≤ zd) {zh : am_H} {N : Int} {G : Int → Int → Int} {S T : Int} {B : Int → Int} {zp : Int} (q_nm : zMm (zh.1 55) (zh.1 56) N G S T) (q_g : zGk N G S T) (q_hd : zHd (zh.1 66) B N) (q_p : 0 ≤ zp ∧ zp < N) : am_wp zd am_m_Model_stock 0 [(0, .ref 55), (1, .ref 66), (2, .int (iN (zp)))] [] (78, 76) zh (78, 76) (fun rv h' => rv = some (.int (iN (zSt G B zp))) ∧ zh = h') := by
  obtain ⟨zd, rfl⟩ : ∃ y_e, zd = y_e + 1 := ⟨zd - 1, by omega⟩
  have q_N := q_g.1
  refine wp_run (k := 4) (pc1 := 5) (l1 := [(0, .ref 55), (1, .ref 66), (2, .int (iN (zp))), (3, .int (iN (0))), (4, .int (iN (0)))]) (st1 := []) (kr1 := (78, 76)) (h1 := zh) rfl ?_
  exact jl_stock_66 _ (by omega) q_nm q_g q_hd q_p (fun zv q_v => ⟨by rw [q_v], rfl⟩) (zp + 2).toNat 0 0 (by omega) rfl (by omega)
set_option maxRecDepth 20000 in
set_option maxHeartbeats 4000000 in
theorem jl_handCost (zd : Nat) (q_d : 2 ≤ zd) {zh : am_H} {N : Int} {G : Int → Int → Int} {S T : Int} {B : Int → Int} (q_nm : zMm (zh.1 55) (zh.1 56) N G S T) (q_g : zGk N G S T) (q_hd : zHd (zh.1 57) B N) (q_hk : zHk N B) {zQ : Option Value → am_H → Prop} (zk : ∀ zv : Int, zv = zHi G B N → zQ (some (.int (iN zv))) zh) : ∀ (z_n : Nat) (zi : Int) (zc : Int) (q_i : 0 ≤ zi ∧ zi ≤ N) (q_z : zc = zHi G B zi), N - zi < (z_n : Int) → am_wp zd am_m_Model_handCost 4 [(0, .ref 55), (1, .int (iN (zc))), (2, .int (iN (zi)))] [] (78, 76) zh (78, 76) zQ := by
  obtain ⟨zd, rfl⟩ : ∃ y_e, zd = y_e + 2 := ⟨zd - 2, by omega⟩
  intro z_n
  induction z_n with
  | zero => intro zi zc q_i q_z q_m; omega
  | succ z_n z_ih =>
    intro zi zc q_i q_z q_m
    have q_N := q_g.1
    refine wp_run (k := 3) (pc1 := 9) (l1 := [(0, .ref 55), (1, .int (iN (zc))), (2, .int (iN (zi)))]) (st1 := [.int (iN (N)), .int (iN (zi))]) (kr1 := (78, 76)) (h1 := zh) (Eq.trans (b := (some (9, [(0, .ref 55), (1, .int (iN (zc))), (2, .int (iN (zi)))], [.int (zh.1 55 0), .int (iN (zi))], (78, 76), zh) : Option am_C)) rfl (by simp only [q_nm.1, Int32.ofInt_add, Int32.ofInt_sub, Int32.ofInt_mul, Int32.ofInt_neg])) ?_
    refine wp_ge (a := zi) (b := N) rfl (by omega) (by omega) (fun b_9 => ?_) (fun b_9 => ?_)
    · refine wp_run (k := 1) (pc1 := 92) (l1 := [(0, .ref 55), (1, .int (iN (zc))), (2, .int (iN (zi)))]) (st1 := [.int (iN (zc))]) (kr1 := (78, 76)) (h1 := zh) rfl ?_
      refine wp_ret (rv := some (.int (iN (zc)))) rfl ?_
      refine zk _ ?_
      rw [q_z, show zi = N by omega]
    · have y_b := zHk_b q_hk zi (by omega)
      have y_s := zSi_r q_hk zi (by omega)
      have y_p := zPi_rg q_g (a := 0) (b := zi) (by omega) (by omega) (by omega)
      have y_0 := zPi_0 G
      have y_d := q_g.2.1 0 zi (by omega) (by omega) (by omega) (by omega)
      have y_r := q_g.2.1 5 zi (by omega) (by omega) (by omega) (by omega)
      have y_v := (show vmax 0 = 99 from rfl)
      have y_w := (show vmax 5 = 999 from rfl)
      have y_2 := zSi_s B zi (by omega)
      have y_3 := zPi_s G zi (by omega)
      have y_t : zSt G B zi = zSi B (zi + 1) - zPi G (zi + 1) := rfl
      refine wp_run (k := 4) (pc1 := 18) (l1 := [(0, .ref 55), (1, .int (iN (zc))), (2, .int (iN (zi)))]) (st1 := [.int (iN (zi)), .ref 57, .ref 55]) (kr1 := (78, 76)) (h1 := zh) rfl ?_
      refine wp_call (md1 := am_m_Model_stock) (As := [.ref 55, .ref 57, .int (iN (zi))]) (rest := []) (kr1 := (78, 76)) rfl (jm_stock_57 _ (by omega) q_nm q_g q_hd (zp := zi) (by omega)) ?_
      rintro _ _ ⟨rfl, rfl⟩
      refine wp_run (k := 5) (pc1 := 28) (l1 := [(0, .ref 55), (1, .int (iN (zc))), (2, .int (iN (zi))), (3, .int (iN (zSt G B (zi))))]) (st1 := [.int (iN (zi)), .ref 57, .int (iN (zc))]) (kr1 := (78, 76)) (h1 := zh) rfl ?_
      refine wp_iald (f := zh.1 57) (z := zi) (j := zi.toNat) (n := 16) (v := iN (B zi)) rfl rfl (by omega) (by omega) (by decide) (q_hd zi (by omega) (by omega)) ?_
      refine wp_le0 (a := B zi) rfl (by omega) (fun b_29 => ?_) (fun b_29 => ?_)
      · refine wp_run (k := 5) (pc1 := 60) (l1 := [(0, .ref 55), (1, .int (iN ((zc) + (0)))), (2, .int (iN (zi))), (3, .int (iN (zSt G B (zi))))]) (st1 := [.int (iN (zSt G B (zi))), .int (iN ((zc) + (0)))]) (kr1 := (78, 76)) (h1 := zh) (Eq.trans (b := (some (60, [(0, .ref 55), (1, .int ((iN (zc)) + (iN (0)))), (2, .int (iN (zi))), (3, .int (iN (zSt G B (zi))))], [.int (iN (zSt G B (zi))), .int ((iN (zc)) + (iN (0)))], (78, 76), zh) : Option am_C)) rfl (by simp only [Int32.ofInt_add, Int32.ofInt_sub, Int32.ofInt_mul, Int32.ofInt_neg])) ?_
        refine wp_le0 (a := zSt G B (zi)) rfl (by omega) (fun b_60 => ?_) (fun b_60 => ?_)
        · refine wp_run (k := 3) (pc1 := 77) (l1 := [(0, .ref 55), (1, .int (iN ((zc) + (0)))), (2, .int (iN (zi))), (3, .int (iN (zSt G B (zi))))]) (st1 := [.int (iN (zi)), .int (iN (4)), .ref 55, .int (iN ((zc) + (0)))]) (kr1 := (78, 76)) (h1 := zh) rfl ?_
          refine wp_call (md1 := am_m_Model_num) (As := [.ref 55, .int (iN (4)), .int (iN (zi))]) (rest := [.int (iN ((zc) + (0)))]) (kr1 := (78, 76)) rfl (jm_num _ (by omega) q_nm q_g (zw := 4) (zp := zi) (by omega) (by omega)) ?_
          rintro _ _ ⟨rfl, rfl⟩
          refine wp_run (k := 7) (pc1 := 4) (l1 := [(0, .ref 55), (1, .int (iN (((zc) + (0)) + ((-(G (4) (zi))) * (zSt G B (zi)))))), (2, .int (iN ((zi) + 1))), (3, .int (iN (zSt G B (zi))))]) (st1 := []) (kr1 := (78, 76)) (h1 := zh) (Eq.trans (b := (some (4, [(0, .ref 55), (1, .int ((iN ((zc) + (0))) + ((-(iN (G (4) (zi)))) * (iN (zSt G B (zi)))))), (2, .int ((iN (zi)) + iN (1))), (3, .int (iN (zSt G B (zi))))], [], (78, 76), zh) : Option am_C)) rfl (by simp only [Int32.ofInt_add, Int32.ofInt_sub, Int32.ofInt_mul, Int32.ofInt_neg])) ?_
          refine wp_drop [3] (l := [(0, .ref 55), (1, .int (iN (((zc) + (0)) + ((-(G (4) (zi))) * (zSt G B (zi)))))), (2, .int (iN ((zi) + 1)))]) rfl rfl ?_
          exact z_ih (zi + 1) (((zc) + (0)) + ((-(G (4) (zi))) * (zSt G B (zi)))) (by omega) (by
            rw [zHi_s G B zi (by omega), show (if 0 < B zi then G 1 zi + B zi * G 2 zi else 0) = 0 from if_neg (by omega), show zSc G zi (zSt G B zi) = -zSt G B zi * G 4 zi from if_neg (by omega), q_z]
            try rw [Int.mul_comm (B zi) (G 2 zi)]
            first
            | rw [Int.mul_comm (zSt G B zi) (G 3 zi)]; try omega
            | rw [Int.mul_comm (-zSt G B zi) (G 4 zi), Int.mul_neg, Int.neg_mul]; try omega) (by omega)
        · refine wp_run (k := 3) (pc1 := 66) (l1 := [(0, .ref 55), (1, .int (iN ((zc) + (0)))), (2, .int (iN (zi))), (3, .int (iN (zSt G B (zi))))]) (st1 := [.int (iN (zi)), .int (iN (3)), .ref 55, .int (iN ((zc) + (0)))]) (kr1 := (78, 76)) (h1 := zh) rfl ?_
          refine wp_call (md1 := am_m_Model_num) (As := [.ref 55, .int (iN (3)), .int (iN (zi))]) (rest := [.int (iN ((zc) + (0)))]) (kr1 := (78, 76)) rfl (jm_num _ (by omega) q_nm q_g (zw := 3) (zp := zi) (by omega) (by omega)) ?_
          rintro _ _ ⟨rfl, rfl⟩
          refine wp_run (k := 7) (pc1 := 4) (l1 := [(0, .ref 55), (1, .int (iN (((zc) + (0)) + ((G (3) (zi)) * (zSt G B (zi)))))), (2, .int (iN ((zi) + 1))), (3, .int (iN (zSt G B (zi))))]) (st1 := []) (kr1 := (78, 76)) (h1 := zh) (Eq.trans (b := (some (4, [(0, .ref 55), (1, .int ((iN ((zc) + (0))) + ((iN (G (3) (zi))) * (iN (zSt G B (zi)))))), (2, .int ((iN (zi)) + iN (1))), (3, .int (iN (zSt G B (zi))))], [], (78, 76), zh) : Option am_C)) rfl (by simp only [Int32.ofInt_add, Int32.ofInt_sub, Int32.ofInt_mul, Int32.ofInt_neg])) ?_
          refine wp_drop [3] (l := [(0, .ref 55), (1, .int (iN (((zc) + (0)) + ((G (3) (zi)) * (zSt G B (zi)))))), (2, .int (iN ((zi) + 1)))]) rfl rfl ?_
          exact z_ih (zi + 1) (((zc) + (0)) + ((G (3) (zi)) * (zSt G B (zi)))) (by omega) (by
            rw [zHi_s G B zi (by omega), show (if 0 < B zi then G 1 zi + B zi * G 2 zi else 0) = 0 from if_neg (by omega), show zSc G zi (zSt G B zi) = zSt G B zi * G 3 zi from if_pos (by omega), q_z]
            try rw [Int.mul_comm (B zi) (G 2 zi)]
            first
            | rw [Int.mul_comm (zSt G B zi) (G 3 zi)]; try omega
            | rw [Int.mul_comm (-zSt G B zi) (G 4 zi), Int.mul_neg, Int.neg_mul]; try omega) (by omega)
      · refine wp_run (k := 3) (pc1 := 35) (l1 := [(0, .ref 55), (1, .int (iN (zc))), (2, .int (iN (zi))), (3, .int (iN (zSt G B (zi))))]) (st1 := [.int (iN (zi)), .int (iN (1)), .ref 55, .int (iN (zc))]) (kr1 := (78, 76)) (h1 := zh) rfl ?_
        refine wp_call (md1 := am_m_Model_num) (As := [.ref 55, .int (iN (1)), .int (iN (zi))]) (rest := [.int (iN (zc))]) (kr1 := (78, 76)) rfl (jm_num _ (by omega) q_nm q_g (zw := 1) (zp := zi) (by omega) (by omega)) ?_
        rintro _ _ ⟨rfl, rfl⟩
        refine wp_run (k := 3) (pc1 := 41) (l1 := [(0, .ref 55), (1, .int (iN (zc))), (2, .int (iN (zi))), (3, .int (iN (zSt G B (zi))))]) (st1 := [.int (iN (zi)), .int (iN (2)), .ref 55, .int (iN (G (1) (zi))), .int (iN (zc))]) (kr1 := (78, 76)) (h1 := zh) rfl ?_
        refine wp_call (md1 := am_m_Model_num) (As := [.ref 55, .int (iN (2)), .int (iN (zi))]) (rest := [.int (iN (G (1) (zi))), .int (iN (zc))]) (kr1 := (78, 76)) rfl (jm_num _ (by omega) q_nm q_g (zw := 2) (zp := zi) (by omega) (by omega)) ?_
        rintro _ _ ⟨rfl, rfl⟩
        refine wp_run (k := 3) (pc1 := 49) (l1 := [(0, .ref 55), (1, .int (iN (zc))), (2, .int (iN (zi))), (3, .int (iN (zSt G B (zi))))]) (st1 := [.int (iN (zi)), .ref 57, .int (iN (G (2) (zi))), .int (iN (G (1) (zi))), .int (iN (zc))]) (kr1 := (78, 76)) (h1 := zh) rfl ?_
        refine wp_iald (f := zh.1 57) (z := zi) (j := zi.toNat) (n := 16) (v := iN (B zi)) rfl rfl (by omega) (by omega) (by decide) (q_hd zi (by omega) (by omega)) ?_
        refine wp_run (k := 7) (pc1 := 60) (l1 := [(0, .ref 55), (1, .int (iN ((zc) + ((G (1) (zi)) + ((G (2) (zi)) * (B zi)))))), (2, .int (iN (zi))), (3, .int (iN (zSt G B (zi))))]) (st1 := [.int (iN (zSt G B (zi))), .int (iN ((zc) + ((G (1) (zi)) + ((G (2) (zi)) * (B zi)))))]) (kr1 := (78, 76)) (h1 := zh) (Eq.trans (b := (some (60, [(0, .ref 55), (1, .int ((iN (zc)) + ((iN (G (1) (zi))) + ((iN (G (2) (zi))) * (iN (B zi)))))), (2, .int (iN (zi))), (3, .int (iN (zSt G B (zi))))], [.int (iN (zSt G B (zi))), .int ((iN (zc)) + ((iN (G (1) (zi))) + ((iN (G (2) (zi))) * (iN (B zi)))))], (78, 76), zh) : Option am_C)) rfl (by simp only [Int32.ofInt_add, Int32.ofInt_sub, Int32.ofInt_mul, Int32.ofInt_neg])) ?_
        refine wp_le0 (a := zSt G B (zi)) rfl (by omega) (fun b_60 => ?_) (fun b_60 => ?_)
        · refine wp_run (k := 3) (pc1 := 77) (l1 := [(0, .ref 55), (1, .int (iN ((zc) + ((G (1) (zi)) + ((G (2) (zi)) * (B zi)))))), (2, .int (iN (zi))), (3, .int (iN (zSt G B (zi))))]) (st1 := [.int (iN (zi)), .int (iN (4)), .ref 55, .int (iN ((zc) + ((G (1) (zi)) + ((G (2) (zi)) * (B zi)))))]) (kr1 := (78, 76)) (h1 := zh) rfl ?_
          refine wp_call (md1 := am_m_Model_num) (As := [.ref 55, .int (iN (4)), .int (iN (zi))]) (rest := [.int (iN ((zc) + ((G (1) (zi)) + ((G (2) (zi)) * (B zi)))))]) (kr1 := (78, 76)) rfl (jm_num _ (by omega) q_nm q_g (zw := 4) (zp := zi) (by omega) (by omega)) ?_
          rintro _ _ ⟨rfl, rfl⟩
          refine wp_run (k := 7) (pc1 := 4) (l1 := [(0, .ref 55), (1, .int (iN (((zc) + ((G (1) (zi)) + ((G (2) (zi)) * (B zi)))) + ((-(G (4) (zi))) * (zSt G B (zi)))))), (2, .int (iN ((zi) + 1))), (3, .int (iN (zSt G B (zi))))]) (st1 := []) (kr1 := (78, 76)) (h1 := zh) (Eq.trans (b := (some (4, [(0, .ref 55), (1, .int ((iN ((zc) + ((G (1) (zi)) + ((G (2) (zi)) * (B zi))))) + ((-(iN (G (4) (zi)))) * (iN (zSt G B (zi)))))), (2, .int ((iN (zi)) + iN (1))), (3, .int (iN (zSt G B (zi))))], [], (78, 76), zh) : Option am_C)) rfl (by simp only [Int32.ofInt_add, Int32.ofInt_sub, Int32.ofInt_mul, Int32.ofInt_neg])) ?_
          refine wp_drop [3] (l := [(0, .ref 55), (1, .int (iN (((zc) + ((G (1) (zi)) + ((G (2) (zi)) * (B zi)))) + ((-(G (4) (zi))) * (zSt G B (zi)))))), (2, .int (iN ((zi) + 1)))]) rfl rfl ?_
          exact z_ih (zi + 1) (((zc) + ((G (1) (zi)) + ((G (2) (zi)) * (B zi)))) + ((-(G (4) (zi))) * (zSt G B (zi)))) (by omega) (by
            rw [zHi_s G B zi (by omega), show (if 0 < B zi then G 1 zi + B zi * G 2 zi else 0) = G 1 zi + B zi * G 2 zi from if_pos (by omega), show zSc G zi (zSt G B zi) = -zSt G B zi * G 4 zi from if_neg (by omega), q_z]
            try rw [Int.mul_comm (B zi) (G 2 zi)]
            first
            | rw [Int.mul_comm (zSt G B zi) (G 3 zi)]; try omega
            | rw [Int.mul_comm (-zSt G B zi) (G 4 zi), Int.mul_neg, Int.neg_mul]; try omega) (by omega)
        · refine wp_run (k := 3) (pc1 := 66) (l1 := [(0, .ref 55), (1, .int (iN ((zc) + ((G (1) (zi)) + ((G (2) (zi)) * (B zi)))))), (2, .int (iN (zi))), (3, .int (iN (zSt G B (zi))))]) (st1 := [.int (iN (zi)), .int (iN (3)), .ref 55, .int (iN ((zc) + ((G (1) (zi)) + ((G (2) (zi)) * (B zi)))))]) (kr1 := (78, 76)) (h1 := zh) rfl ?_
          refine wp_call (md1 := am_m_Model_num) (As := [.ref 55, .int (iN (3)), .int (iN (zi))]) (rest := [.int (iN ((zc) + ((G (1) (zi)) + ((G (2) (zi)) * (B zi)))))]) (kr1 := (78, 76)) rfl (jm_num _ (by omega) q_nm q_g (zw := 3) (zp := zi) (by omega) (by omega)) ?_
          rintro _ _ ⟨rfl, rfl⟩
          refine wp_run (k := 7) (pc1 := 4) (l1 := [(0, .ref 55), (1, .int (iN (((zc) + ((G (1) (zi)) + ((G (2) (zi)) * (B zi)))) + ((G (3) (zi)) * (zSt G B (zi)))))), (2, .int (iN ((zi) + 1))), (3, .int (iN (zSt G B (zi))))]) (st1 := []) (kr1 := (78, 76)) (h1 := zh) (Eq.trans (b := (some (4, [(0, .ref 55), (1, .int ((iN ((zc) + ((G (1) (zi)) + ((G (2) (zi)) * (B zi))))) + ((iN (G (3) (zi))) * (iN (zSt G B (zi)))))), (2, .int ((iN (zi)) + iN (1))), (3, .int (iN (zSt G B (zi))))], [], (78, 76), zh) : Option am_C)) rfl (by simp only [Int32.ofInt_add, Int32.ofInt_sub, Int32.ofInt_mul, Int32.ofInt_neg])) ?_
          refine wp_drop [3] (l := [(0, .ref 55), (1, .int (iN (((zc) + ((G (1) (zi)) + ((G (2) (zi)) * (B zi)))) + ((G (3) (zi)) * (zSt G B (zi)))))), (2, .int (iN ((zi) + 1)))]) rfl rfl ?_
          exact z_ih (zi + 1) (((zc) + ((G (1) (zi)) + ((G (2) (zi)) * (B zi)))) + ((G (3) (zi)) * (zSt G B (zi)))) (by omega) (by
            rw [zHi_s G B zi (by omega), show (if 0 < B zi then G 1 zi + B zi * G 2 zi else 0) = G 1 zi + B zi * G 2 zi from if_pos (by omega), show zSc G zi (zSt G B zi) = zSt G B zi * G 3 zi from if_pos (by omega), q_z]
            try rw [Int.mul_comm (B zi) (G 2 zi)]
            first
            | rw [Int.mul_comm (zSt G B zi) (G 3 zi)]; try omega
            | rw [Int.mul_comm (-zSt G B zi) (G 4 zi), Int.mul_neg, Int.neg_mul]; try omega) (by omega)
set_option maxRecDepth 20000 in
set_option maxHeartbeats 4000000 in
theorem jm_handCost (zd : Nat) (q_d : 2 ≤ zd) {zh : am_H} {N : Int} {G : Int → Int → Int} {S T : Int} {B : Int → Int} (q_nm : zMm (zh.1 55) (zh.1 56) N G S T) (q_g : zGk N G S T) (q_hd : zHd (zh.1 57) B N) (q_hk : zHk N B) : am_wp zd am_m_Model_handCost 0 [(0, .ref 55)] [] (78, 76) zh (78, 76) (fun rv h' => rv = some (.int (iN (zHi G B N))) ∧ zh = h') := by
  obtain ⟨zd, rfl⟩ : ∃ y_e, zd = y_e + 2 := ⟨zd - 2, by omega⟩
  have q_N := q_g.1
  refine wp_run (k := 4) (pc1 := 4) (l1 := [(0, .ref 55), (1, .int (iN (0))), (2, .int (iN (0)))]) (st1 := []) (kr1 := (78, 76)) (h1 := zh) rfl ?_
  exact jl_handCost _ (by omega) q_nm q_g q_hd q_hk (fun zv q_v => ⟨by rw [q_v], rfl⟩) 17 0 0 (by omega) rfl (by omega)
set_option maxRecDepth 20000 in
set_option maxHeartbeats 4000000 in
theorem jl_mwrong (zd : Nat) (q_d : 2 ≤ zd) {zh : am_H} {N : Int} {G : Int → Int → Int} {S T : Int} {B : Int → Int} (q_nm : zMm (zh.1 55) (zh.1 56) N G S T) (q_g : zGk N G S T) (q_hd : zHd (zh.1 57) B N) (q_hk : zHk N B) {zQ : Option Value → am_H → Prop} (zk : ∀ zv : Int, zFst N (zWr N G S T B) zv → zQ (some (.int (iN zv))) zh) : ∀ (z_n : Nat) (zi : Int) (q_i : 0 ≤ zi ∧ zi ≤ N) (q_w : ∀ p : Int, 0 ≤ p → p < zi → ¬ zWr N G S T B p), N - zi < (z_n : Int) → am_wp zd am_m_Model_wrong 2 [(0, .ref 55), (1, .int (iN (zi)))] [] (78, 76) zh (78, 76) zQ := by
  obtain ⟨zd, rfl⟩ : ∃ y_e, zd = y_e + 2 := ⟨zd - 2, by omega⟩
  intro z_n
  induction z_n with
  | zero => intro zi q_i q_w q_m; omega
  | succ z_n z_ih =>
    intro zi q_i q_w q_m
    have q_N := q_g.1
    have q_S := q_g.2.2.1
    have q_T := q_g.2.2.2
    refine wp_run (k := 3) (pc1 := 7) (l1 := [(0, .ref 55), (1, .int (iN (zi)))]) (st1 := [.int (iN (N)), .int (iN (zi))]) (kr1 := (78, 76)) (h1 := zh) (Eq.trans (b := (some (7, [(0, .ref 55), (1, .int (iN (zi)))], [.int (zh.1 55 0), .int (iN (zi))], (78, 76), zh) : Option am_C)) rfl (by simp only [q_nm.1, Int32.ofInt_add, Int32.ofInt_sub, Int32.ofInt_mul, Int32.ofInt_neg])) ?_
    refine wp_ge (a := zi) (b := N) rfl (by omega) (by omega) (fun b_7 => ?_) (fun b_7 => ?_)
    · refine wp_run (k := 1) (pc1 := 81) (l1 := [(0, .ref 55), (1, .int (iN (zi)))]) (st1 := [.int (iN (-2))]) (kr1 := (78, 76)) (h1 := zh) rfl ?_
      refine wp_ret (rv := some (.int (iN (-2)))) rfl ?_
      refine zk _ (Or.inr ⟨rfl, fun p q1 q2 => q_w p q1 (by omega)⟩)
    · have y_b := zHk_b q_hk zi (by omega)
      have y_s := zSi_r q_hk zi (by omega)
      have y_p := zPi_rg q_g (a := 0) (b := zi) (by omega) (by omega) (by omega)
      have y_0 := zPi_0 G
      have y_d := q_g.2.1 0 zi (by omega) (by omega) (by omega) (by omega)
      have y_r := q_g.2.1 5 zi (by omega) (by omega) (by omega) (by omega)
      have y_v := (show vmax 0 = 99 from rfl)
      have y_w := (show vmax 5 = 999 from rfl)
      have y_2 := zSi_s B zi (by omega)
      have y_3 := zPi_s G zi (by omega)
      have y_t : zSt G B zi = zSi B (zi + 1) - zPi G (zi + 1) := rfl
      refine wp_run (k := 4) (pc1 := 16) (l1 := [(0, .ref 55), (1, .int (iN (zi)))]) (st1 := [.int (iN (zi)), .ref 57, .ref 55]) (kr1 := (78, 76)) (h1 := zh) rfl ?_
      refine wp_call (md1 := am_m_Model_stock) (As := [.ref 55, .ref 57, .int (iN (zi))]) (rest := []) (kr1 := (78, 76)) rfl (jm_stock_57 _ (by omega) q_nm q_g q_hd (zp := zi) (by omega)) ?_
      rintro _ _ ⟨rfl, rfl⟩
      refine wp_run (k := 4) (pc1 := 25) (l1 := [(0, .ref 55), (1, .int (iN (zi))), (2, .int (iN (zSt G B (zi))))]) (st1 := [.int (iN (zi)), .ref 57]) (kr1 := (78, 76)) (h1 := zh) rfl ?_
      refine wp_iald (f := zh.1 57) (z := zi) (j := zi.toNat) (n := 16) (v := iN (B zi)) rfl rfl (by omega) (by omega) (by decide) (q_hd zi (by omega) (by omega)) ?_
      refine wp_run (k := 3) (pc1 := 29) (l1 := [(0, .ref 55), (1, .int (iN (zi))), (2, .int (iN (zSt G B (zi))))]) (st1 := [.int (iN (zi)), .int (iN (5)), .ref 55, .int (iN (B zi))]) (kr1 := (78, 76)) (h1 := zh) rfl ?_
      refine wp_call (md1 := am_m_Model_num) (As := [.ref 55, .int (iN (5)), .int (iN (zi))]) (rest := [.int (iN (B zi))]) (kr1 := (78, 76)) rfl (jm_num _ (by omega) q_nm q_g (zw := 5) (zp := zi) (by omega) (by omega)) ?_
      rintro _ _ ⟨rfl, rfl⟩
      refine wp_gt (a := B zi) (b := G (5) (zi)) rfl (by omega) (by omega) (fun b_32 => ?_) (fun b_32 => ?_)
      · refine wp_run (k := 1) (pc1 := 72) (l1 := [(0, .ref 55), (1, .int (iN (zi))), (2, .int (iN (zSt G B (zi))))]) (st1 := [.int (iN (zi))]) (kr1 := (78, 76)) (h1 := zh) rfl ?_
        refine wp_ret (rv := some (.int (iN (zi)))) rfl ?_
        refine zk _ (Or.inl ⟨by omega, by omega, by unfold zWr; omega, q_w⟩)
      · refine wp_run (k := 4) (pc1 := 42) (l1 := [(0, .ref 55), (1, .int (iN (zi))), (2, .int (iN (zSt G B (zi))))]) (st1 := [.int (iN (96)), .ref 56, .int (iN (zSt G B (zi)))]) (kr1 := (78, 76)) (h1 := zh) rfl ?_
        refine wp_iald (f := zh.1 56) (z := 96) (j := 96) (n := 98) (v := iN S) rfl rfl (by omega) (by omega) (by decide) (q_nm.2.2.1) ?_
        refine wp_gt (a := zSt G B (zi)) (b := S) rfl (by omega) (by omega) (fun b_43 => ?_) (fun b_43 => ?_)
        · refine wp_run (k := 1) (pc1 := 72) (l1 := [(0, .ref 55), (1, .int (iN (zi))), (2, .int (iN (zSt G B (zi))))]) (st1 := [.int (iN (zi))]) (kr1 := (78, 76)) (h1 := zh) rfl ?_
          refine wp_ret (rv := some (.int (iN (zi)))) rfl ?_
          refine zk _ (Or.inl ⟨by omega, by omega, by unfold zWr; omega, q_w⟩)
        · refine wp_run (k := 1) (pc1 := 47) (l1 := [(0, .ref 55), (1, .int (iN (zi))), (2, .int (iN (zSt G B (zi))))]) (st1 := [.int (iN (zSt G B (zi)))]) (kr1 := (78, 76)) (h1 := zh) rfl ?_
          refine wp_ge0 (a := zSt G B (zi)) rfl (by omega) (fun b_47 => ?_) (fun b_47 => ?_)
          · refine wp_run (k := 5) (pc1 := 64) (l1 := [(0, .ref 55), (1, .int (iN (zi))), (2, .int (iN (zSt G B (zi))))]) (st1 := [.int (iN ((N) - (1))), .int (iN (zi))]) (kr1 := (78, 76)) (h1 := zh) (Eq.trans (b := (some (64, [(0, .ref 55), (1, .int (iN (zi))), (2, .int (iN (zSt G B (zi))))], [.int ((zh.1 55 0) - (iN (1))), .int (iN (zi))], (78, 76), zh) : Option am_C)) rfl (by simp only [q_nm.1, Int32.ofInt_add, Int32.ofInt_sub, Int32.ofInt_mul, Int32.ofInt_neg])) ?_
            refine wp_ne (a := zi) (b := (N) - (1)) rfl (by omega) (by omega) (fun b_64 => ?_) (fun b_64 => ?_)
            · refine wp_run (k := 2) (pc1 := 2) (l1 := [(0, .ref 55), (1, .int (iN ((zi) + 1))), (2, .int (iN (zSt G B (zi))))]) (st1 := []) (kr1 := (78, 76)) (h1 := zh) (Eq.trans (b := (some (2, [(0, .ref 55), (1, .int ((iN (zi)) + iN (1))), (2, .int (iN (zSt G B (zi))))], [], (78, 76), zh) : Option am_C)) rfl (by simp only [Int32.ofInt_add, Int32.ofInt_sub, Int32.ofInt_mul, Int32.ofInt_neg])) ?_
              refine wp_drop [2] (l := [(0, .ref 55), (1, .int (iN ((zi) + 1)))]) rfl rfl ?_
              exact z_ih (zi + 1) (by omega) (fun p q1 q2 => by
                by_cases q3 : p = zi
                · subst q3; unfold zWr; omega
                · exact q_w p q1 (by omega)) (by omega)
            · refine wp_run (k := 1) (pc1 := 68) (l1 := [(0, .ref 55), (1, .int (iN (zi))), (2, .int (iN (zSt G B (zi))))]) (st1 := [.int (iN (zSt G B (zi)))]) (kr1 := (78, 76)) (h1 := zh) rfl ?_
              refine wp_eq0 (a := zSt G B (zi)) rfl (by omega) (fun b_68 => ?_) (fun b_68 => ?_)
              · refine wp_run (k := 2) (pc1 := 2) (l1 := [(0, .ref 55), (1, .int (iN ((zi) + 1))), (2, .int (iN (zSt G B (zi))))]) (st1 := []) (kr1 := (78, 76)) (h1 := zh) (Eq.trans (b := (some (2, [(0, .ref 55), (1, .int ((iN (zi)) + iN (1))), (2, .int (iN (zSt G B (zi))))], [], (78, 76), zh) : Option am_C)) rfl (by simp only [Int32.ofInt_add, Int32.ofInt_sub, Int32.ofInt_mul, Int32.ofInt_neg])) ?_
                refine wp_drop [2] (l := [(0, .ref 55), (1, .int (iN ((zi) + 1)))]) rfl rfl ?_
                exact z_ih (zi + 1) (by omega) (fun p q1 q2 => by
                  by_cases q3 : p = zi
                  · subst q3; unfold zWr; omega
                  · exact q_w p q1 (by omega)) (by omega)
              · refine wp_run (k := 1) (pc1 := 72) (l1 := [(0, .ref 55), (1, .int (iN (zi))), (2, .int (iN (zSt G B (zi))))]) (st1 := [.int (iN (zi))]) (kr1 := (78, 76)) (h1 := zh) rfl ?_
                refine wp_ret (rv := some (.int (iN (zi)))) rfl ?_
                refine zk _ (Or.inl ⟨by omega, by omega, by unfold zWr; omega, q_w⟩)
          · refine wp_run (k := 1) (pc1 := 51) (l1 := [(0, .ref 55), (1, .int (iN (zi))), (2, .int (iN (zSt G B (zi))))]) (st1 := [.ref 55]) (kr1 := (78, 76)) (h1 := zh) rfl ?_
            refine wp_call (md1 := am_m_Model_isLate) (As := [.ref 55]) (rest := []) (kr1 := (78, 76)) rfl (jm_isLate _ (by omega) q_nm q_g) ?_
            rintro _ _ ⟨rfl, rfl⟩
            refine wp_eqb rfl (fun b_54 => ?_) (fun b_54 => ?_)
            · refine wp_run (k := 1) (pc1 := 72) (l1 := [(0, .ref 55), (1, .int (iN (zi))), (2, .int (iN (zSt G B (zi))))]) (st1 := [.int (iN (zi))]) (kr1 := (78, 76)) (h1 := zh) rfl ?_
              refine wp_ret (rv := some (.int (iN (zi)))) rfl ?_
              refine zk _ (Or.inl ⟨by omega, by omega, by unfold zWr; omega, q_w⟩)
            · refine wp_run (k := 5) (pc1 := 64) (l1 := [(0, .ref 55), (1, .int (iN (zi))), (2, .int (iN (zSt G B (zi))))]) (st1 := [.int (iN ((N) - (1))), .int (iN (zi))]) (kr1 := (78, 76)) (h1 := zh) (Eq.trans (b := (some (64, [(0, .ref 55), (1, .int (iN (zi))), (2, .int (iN (zSt G B (zi))))], [.int ((zh.1 55 0) - (iN (1))), .int (iN (zi))], (78, 76), zh) : Option am_C)) rfl (by simp only [q_nm.1, Int32.ofInt_add, Int32.ofInt_sub, Int32.ofInt_mul, Int32.ofInt_neg])) ?_
              refine wp_ne (a := zi) (b := (N) - (1)) rfl (by omega) (by omega) (fun b_64 => ?_) (fun b_64 => ?_)
              · refine wp_run (k := 2) (pc1 := 2) (l1 := [(0, .ref 55), (1, .int (iN ((zi) + 1))), (2, .int (iN (zSt G B (zi))))]) (st1 := []) (kr1 := (78, 76)) (h1 := zh) (Eq.trans (b := (some (2, [(0, .ref 55), (1, .int ((iN (zi)) + iN (1))), (2, .int (iN (zSt G B (zi))))], [], (78, 76), zh) : Option am_C)) rfl (by simp only [Int32.ofInt_add, Int32.ofInt_sub, Int32.ofInt_mul, Int32.ofInt_neg])) ?_
                refine wp_drop [2] (l := [(0, .ref 55), (1, .int (iN ((zi) + 1)))]) rfl rfl ?_
                exact z_ih (zi + 1) (by omega) (fun p q1 q2 => by
                  by_cases q3 : p = zi
                  · subst q3; unfold zWr; omega
                  · exact q_w p q1 (by omega)) (by omega)
              · refine wp_run (k := 1) (pc1 := 68) (l1 := [(0, .ref 55), (1, .int (iN (zi))), (2, .int (iN (zSt G B (zi))))]) (st1 := [.int (iN (zSt G B (zi)))]) (kr1 := (78, 76)) (h1 := zh) rfl ?_
                refine wp_eq0 (a := zSt G B (zi)) rfl (by omega) (fun b_68 => ?_) (fun b_68 => ?_)
                · refine wp_run (k := 2) (pc1 := 2) (l1 := [(0, .ref 55), (1, .int (iN ((zi) + 1))), (2, .int (iN (zSt G B (zi))))]) (st1 := []) (kr1 := (78, 76)) (h1 := zh) (Eq.trans (b := (some (2, [(0, .ref 55), (1, .int ((iN (zi)) + iN (1))), (2, .int (iN (zSt G B (zi))))], [], (78, 76), zh) : Option am_C)) rfl (by simp only [Int32.ofInt_add, Int32.ofInt_sub, Int32.ofInt_mul, Int32.ofInt_neg])) ?_
                  refine wp_drop [2] (l := [(0, .ref 55), (1, .int (iN ((zi) + 1)))]) rfl rfl ?_
                  exact z_ih (zi + 1) (by omega) (fun p q1 q2 => by
                    by_cases q3 : p = zi
                    · subst q3; unfold zWr; omega
                    · exact q_w p q1 (by omega)) (by omega)
                · refine wp_run (k := 1) (pc1 := 72) (l1 := [(0, .ref 55), (1, .int (iN (zi))), (2, .int (iN (zSt G B (zi))))]) (st1 := [.int (iN (zi))]) (kr1 := (78, 76)) (h1 := zh) rfl ?_
                  refine wp_ret (rv := some (.int (iN (zi)))) rfl ?_
                  refine zk _ (Or.inl ⟨by omega, by omega, by unfold zWr; omega, q_w⟩)
set_option maxRecDepth 20000 in
set_option maxHeartbeats 4000000 in
theorem jm_wrong (zd : Nat) (q_d : 2 ≤ zd) {zh : am_H} {N : Int} {G : Int → Int → Int} {S T : Int} {B : Int → Int} (q_nm : zMm (zh.1 55) (zh.1 56) N G S T) (q_g : zGk N G S T) (q_hd : zHd (zh.1 57) B N) (q_hk : zHk N B) : am_wp zd am_m_Model_wrong 0 [(0, .ref 55)] [] (78, 76) zh (78, 76) (fun rv h' => ∃ zv : Int, rv = some (.int (iN zv)) ∧ zFst N (zWr N G S T B) zv ∧ zh = h') := by
  obtain ⟨zd, rfl⟩ : ∃ y_e, zd = y_e + 2 := ⟨zd - 2, by omega⟩
  have q_N := q_g.1
  refine wp_run (k := 2) (pc1 := 2) (l1 := [(0, .ref 55), (1, .int (iN (0)))]) (st1 := []) (kr1 := (78, 76)) (h1 := zh) rfl ?_
  exact jl_mwrong _ (by omega) q_nm q_g q_hd q_hk (fun zv q_v => ⟨zv, rfl, q_v, rfl⟩) 17 0 (by omega) (fun p q1 q2 => by omega) (by omega)
