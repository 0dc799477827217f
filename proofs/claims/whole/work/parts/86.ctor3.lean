/-! THE CONSTRUCTORS: the class -/
set_option maxRecDepth 20000 in
set_option maxHeartbeats 4000000 in
theorem jl_sinit (zd : Nat) (q_d : 1 ≤ zd) {zh : am_H}  {zQ : Option Value → am_H → Prop} (zk2 : ∀ zg : am_H, am_fr [33] zh zg → (∀ k : Int, 0 ≤ k → k < 4 → zg.1 33 k.toNat = iN (-1)) → zQ none zg) : ∀ (z_n : Nat) (zg : am_H) (zi : Int) (q_fr : am_fr [33] zh zg) (q_A : ∀ k : Int, 0 ≤ k → k < zi → zg.1 33 k.toNat = iN (-1)) (q_i : 0 ≤ zi ∧ zi ≤ 4), 5 - zi < (z_n : Int) → am_wp zd am_m_Shelves_init 21 [(0, .ref 31), (1, .int (iN (zi)))] [] (34, 32) zg (34, 32) zQ := by
  obtain ⟨zd, rfl⟩ : ∃ y_e, zd = y_e + 1 := ⟨zd - 1, by omega⟩
  intro z_n
  induction z_n with
  | zero => intro zg zi q_fr q_A q_i q_m; omega
  | succ z_n z_ih =>
    intro zg zi q_fr q_A q_i q_m
    refine wp_run (k := 3) (pc1 := 26) (l1 := [(0, .ref 31), (1, .int (iN (zi)))]) (st1 := [.ref 33, .int (iN (zi))]) (kr1 := (34, 32)) (h1 := zg) rfl ?_
    refine wp_alen (v := 4) rfl rfl ?_
    refine wp_ge (a := zi) (b := 4) rfl (by omega) (by omega) (fun b_27 => ?_) (fun b_27 => ?_)
    · refine wp_ret (rv := none) rfl ?_
      exact zk2 zg q_fr (fun k y1 y2 => q_A k y1 (by omega))
    · refine wp_run (k := 4) (pc1 := 36) (l1 := [(0, .ref 31), (1, .int (iN (zi)))]) (st1 := [.int (iN (-1)), .int (iN (zi)), .ref 33]) (kr1 := (34, 32)) (h1 := zg) rfl ?_
      refine wp_iast (z := zi) (j := (zi).toNat) (n := 4) rfl (by decide) (by decide) rfl rfl (by omega) (by omega) (by decide) ?_
      refine wp_run (k := 2) (pc1 := 21) (l1 := [(0, .ref 31), (1, .int (iN ((zi) + 1)))]) (st1 := []) (kr1 := (34, 32)) (h1 := am_wr zg 33 ((zi).toNat) (iN (-1))) (Eq.trans (b := (some (21, [(0, .ref 31), (1, .int ((iN (zi)) + iN (1)))], [], (34, 32), am_wr zg 33 ((zi).toNat) (iN (-1))) : Option am_C)) rfl (by simp only [Int32.ofInt_add, Int32.ofInt_sub, Int32.ofInt_mul, Int32.ofInt_neg])) ?_
      refine z_ih (am_wr zg 33 ((zi).toNat) (iN (-1))) (zi + 1) (am_fr_w q_fr (by decide) _ _) (fun k y1 y2 => ?_) (by omega) (by omega)
      by_cases y3 : k = zi
      · rw [y3, am_wr_at]
      · rw [am_wr_no (by omega)]; exact q_A k y1 (by omega)
set_option maxRecDepth 20000 in
set_option maxHeartbeats 4000000 in
theorem ji_Shelves_init_31 (zd : Nat) (q_d : 2 ≤ zd) {zh : am_H} (q_z : zZ 31 zh) : am_wp zd am_m_Shelves_init 0 [(0, .ref 31)] [] (32, 30) zh (34, 32) (fun rv h' => rv = none ∧ am_fr [33] zh h' ∧ ∀ k : Int, 0 ≤ k → k < 4 → h'.1 33 k.toNat = iN (-1)) := by
  obtain ⟨zd, rfl⟩ : ∃ y_e, zd = y_e + 2 := ⟨zd - 2, by omega⟩
  refine wp_run (k := 1) (pc1 := 1) (l1 := [(0, .ref 31)]) (st1 := [.ref 31]) (kr1 := (32, 30)) (h1 := zh) rfl ?_
  refine wp_now (rest := []) rfl ?_
  refine wp_run (k := 3) (pc1 := 9) (l1 := [(0, .ref 31)]) (st1 := [.ref 32, .ref 31]) (kr1 := (33, 30)) (h1 := am_z zh 32) rfl ?_
  rw [am_z_0 (zZ_le (zj := 32) q_z (by decide)) (by decide)]
  refine wp_run (k := 4) (pc1 := 16) (l1 := [(0, .ref 31)]) (st1 := [.ref 33, .ref 31]) (kr1 := (34, 31)) (h1 := am_z zh 33) rfl ?_
  rw [am_z_0 (zZ_le (zj := 33) q_z (by decide)) (by decide)]
  refine wp_run (k := 3) (pc1 := 21) (l1 := [(0, .ref 31), (1, .int (iN (0)))]) (st1 := []) (kr1 := (34, 32)) (h1 := zh) rfl ?_
  exact jl_sinit (zh := zh) _ (by omega) (fun zg q_fr q_A => ⟨rfl, q_fr, q_A⟩) 6 zh 0 (am_fr_0 _ _) (fun k y1 y2 => by omega) (by omega) (by omega)
set_option maxRecDepth 20000 in
set_option maxHeartbeats 4000000 in
theorem ji_Lp_init (zd : Nat) (q_d : 4 ≤ zd) {zh : am_H} (q_z : zZ 0 zh) : am_wp zd am_m_Lp_init 0 [(0, .ref 0)] [] (1, 0) zh (55, 54) (fun rv h' => rv = none ∧ am_fr [0, 1, 2, 3, 33, 34, 35, 36, 51, 52] zh h' ∧ zNm (h'.1 1) (h'.1 2) 8 (fun w _ => zF1 w) 999 0 ∧ h'.1 1 2 = iN 1 ∧ h'.1 34 2 = iN 1 ∧ h'.1 3 1 = iN 0 ∧ h'.1 36 1 = iN 0 ∧ (∀ k : Int, 0 ≤ k → k < 4 → h'.1 33 k.toNat = iN (-1)) ∧ h'.1 0 13 = iN 0) := by
  obtain ⟨zd, rfl⟩ : ∃ y_e, zd = y_e + 4 := ⟨zd - 4, by omega⟩
  refine wp_run (k := 1) (pc1 := 1) (l1 := [(0, .ref 0)]) (st1 := [.ref 0]) (kr1 := (1, 0)) (h1 := zh) rfl ?_
  refine wp_now (rest := []) rfl ?_
  refine wp_run (k := 2) (pc1 := 8) (l1 := [(0, .ref 0)]) (st1 := [.ref 1, .ref 0]) (kr1 := (2, 0)) (h1 := am_z zh 1) rfl ?_
  rw [am_z_0 (zZ_le (zj := 1) q_z (by decide)) (by decide)]
  refine wp_run (k := 1) (pc1 := 9) (l1 := [(0, .ref 0)]) (st1 := [.ref 1, .ref 1, .ref 0]) (kr1 := (2, 0)) (h1 := zh) rfl ?_
  refine wp_call (md1 := am_m_Numbers_init) (As := [.ref 1]) (rest := [.ref 1, .ref 0]) (kr1 := (3, 1)) rfl (ji_Numbers_init_1 _ (by omega) (zZ_le q_z (by decide))) ?_
  rintro _ zg1 ⟨rfl, q_f1, q_n1, q_s1⟩
  have q_z1 : zZ 3 zg1 := zZ_f (zZ_le q_z (by decide)) q_f1 (by decide)
  refine wp_run (k := 3) (pc1 := 19) (l1 := [(0, .ref 0)]) (st1 := [.ref 3, .ref 0]) (kr1 := (4, 2)) (h1 := am_z zg1 3) rfl ?_
  rw [am_z_0 (zZ_le (zj := 3) q_z1 (by decide)) (by decide)]
  refine wp_run (k := 1) (pc1 := 20) (l1 := [(0, .ref 0)]) (st1 := [.ref 3, .ref 3, .ref 0]) (kr1 := (4, 2)) (h1 := zg1) rfl ?_
  refine wp_call (md1 := am_m_Plan_init) (As := [.ref 3]) (rest := [.ref 3, .ref 0]) (kr1 := (18, 16)) rfl (ji_Plan_init_3 _ (by omega) (zZ_le q_z1 (by decide))) ?_
  rintro _ zg3 ⟨rfl, q_e3⟩
  have q_f3 : am_fr [3] zg1 zg3 := by rw [← q_e3]; exact am_fr_w (am_fr_0 _ _) (by decide) _ _
  have q_s3 : zg3.1 3 1 = iN 0 := by rw [← q_e3, am_wr_no (by decide), (q_z1 3 (by decide) (by decide)).1]; exact iN_0.symm
  have q_z3 : zZ 18 zg3 := zZ_f (zZ_le q_z1 (by decide)) q_f3 (by decide)
  refine wp_run (k := 3) (pc1 := 30) (l1 := [(0, .ref 0)]) (st1 := [.ref 18, .ref 0]) (kr1 := (19, 17)) (h1 := am_z zg3 18) rfl ?_
  rw [am_z_0 (zZ_le (zj := 18) q_z3 (by decide)) (by decide)]
  refine wp_run (k := 1) (pc1 := 31) (l1 := [(0, .ref 0)]) (st1 := [.ref 18, .ref 18, .ref 0]) (kr1 := (19, 17)) (h1 := zg3) rfl ?_
  refine wp_call (md1 := am_m_Bounded_init) (As := [.ref 18]) (rest := [.ref 18, .ref 0]) (kr1 := (22, 20)) rfl (ji_Bounded_init_18 _ (by omega) (zZ_le q_z3 (by decide))) ?_
  rintro _ _ ⟨rfl, rfl⟩
  refine wp_run (k := 3) (pc1 := 41) (l1 := [(0, .ref 0)]) (st1 := [.ref 22, .ref 0]) (kr1 := (23, 21)) (h1 := am_z zg3 22) rfl ?_
  rw [am_z_0 (zZ_le (zj := 22) q_z3 (by decide)) (by decide)]
  refine wp_run (k := 1) (pc1 := 42) (l1 := [(0, .ref 0)]) (st1 := [.ref 22, .ref 22, .ref 0]) (kr1 := (23, 21)) (h1 := zg3) rfl ?_
  refine wp_call (md1 := am_m_ByRule_init) (As := [.ref 22]) (rest := [.ref 22, .ref 0]) (kr1 := (23, 21)) rfl (ji_ByRule_init_22 _ (by omega) (zZ_le q_z3 (by decide))) ?_
  rintro _ _ ⟨rfl, rfl⟩
  refine wp_run (k := 3) (pc1 := 52) (l1 := [(0, .ref 0)]) (st1 := [.ref 23, .ref 0]) (kr1 := (24, 22)) (h1 := am_z zg3 23) rfl ?_
  rw [am_z_0 (zZ_le (zj := 23) q_z3 (by decide)) (by decide)]
  refine wp_run (k := 1) (pc1 := 53) (l1 := [(0, .ref 0)]) (st1 := [.ref 23, .ref 23, .ref 0]) (kr1 := (24, 22)) (h1 := zg3) rfl ?_
  refine wp_call (md1 := am_m_ByHand_init) (As := [.ref 23]) (rest := [.ref 23, .ref 0]) (kr1 := (25, 23)) rfl (ji_ByHand_init_23 _ (by omega) (zZ_le q_z3 (by decide))) ?_
  rintro _ _ ⟨rfl, rfl⟩
  refine wp_run (k := 3) (pc1 := 63) (l1 := [(0, .ref 0)]) (st1 := [.ref 25, .ref 0]) (kr1 := (26, 24)) (h1 := am_z zg3 25) rfl ?_
  rw [am_z_0 (zZ_le (zj := 25) q_z3 (by decide)) (by decide)]
  refine wp_run (k := 1) (pc1 := 64) (l1 := [(0, .ref 0)]) (st1 := [.ref 25, .ref 25, .ref 0]) (kr1 := (26, 24)) (h1 := zg3) rfl ?_
  refine wp_call (md1 := am_m_Changes_init) (As := [.ref 25]) (rest := [.ref 25, .ref 0]) (kr1 := (27, 25)) rfl (ji_Changes_init_25 _ (by omega) (zZ_le q_z3 (by decide))) ?_
  rintro _ _ ⟨rfl, rfl⟩
  refine wp_run (k := 3) (pc1 := 74) (l1 := [(0, .ref 0)]) (st1 := [.ref 27, .ref 0]) (kr1 := (28, 26)) (h1 := am_z zg3 27) rfl ?_
  rw [am_z_0 (zZ_le (zj := 27) q_z3 (by decide)) (by decide)]
  refine wp_run (k := 1) (pc1 := 75) (l1 := [(0, .ref 0)]) (st1 := [.ref 27, .ref 27, .ref 0]) (kr1 := (28, 26)) (h1 := zg3) rfl ?_
  refine wp_call (md1 := am_m_Text_init) (As := [.ref 27]) (rest := [.ref 27, .ref 0]) (kr1 := (29, 27)) rfl (ji_Text_init_27 _ (by omega) (zZ_le q_z3 (by decide))) ?_
  rintro _ _ ⟨rfl, rfl⟩
  refine wp_run (k := 3) (pc1 := 85) (l1 := [(0, .ref 0)]) (st1 := [.ref 29, .ref 0]) (kr1 := (30, 28)) (h1 := am_z zg3 29) rfl ?_
  rw [am_z_0 (zZ_le (zj := 29) q_z3 (by decide)) (by decide)]
  refine wp_run (k := 1) (pc1 := 86) (l1 := [(0, .ref 0)]) (st1 := [.ref 29, .ref 29, .ref 0]) (kr1 := (30, 28)) (h1 := zg3) rfl ?_
  refine wp_call (md1 := am_m_Printed_init) (As := [.ref 29]) (rest := [.ref 29, .ref 0]) (kr1 := (31, 29)) rfl (ji_Printed_init_29 _ (by omega) (zZ_le q_z3 (by decide))) ?_
  rintro _ _ ⟨rfl, rfl⟩
  refine wp_run (k := 3) (pc1 := 96) (l1 := [(0, .ref 0)]) (st1 := [.ref 31, .ref 0]) (kr1 := (32, 30)) (h1 := am_z zg3 31) rfl ?_
  rw [am_z_0 (zZ_le (zj := 31) q_z3 (by decide)) (by decide)]
  refine wp_run (k := 1) (pc1 := 97) (l1 := [(0, .ref 0)]) (st1 := [.ref 31, .ref 31, .ref 0]) (kr1 := (32, 30)) (h1 := zg3) rfl ?_
  refine wp_call (md1 := am_m_Shelves_init) (As := [.ref 31]) (rest := [.ref 31, .ref 0]) (kr1 := (34, 32)) rfl (ji_Shelves_init_31 _ (by omega) (zZ_le q_z3 (by decide))) ?_
  rintro _ zg31 ⟨rfl, q_f31, q_n31⟩
  have q_z31 : zZ 34 zg31 := zZ_f (zZ_le q_z3 (by decide)) q_f31 (by decide)
  refine wp_run (k := 3) (pc1 := 107) (l1 := [(0, .ref 0)]) (st1 := [.ref 34, .ref 0]) (kr1 := (35, 33)) (h1 := am_z zg31 34) rfl ?_
  rw [am_z_0 (zZ_le (zj := 34) q_z31 (by decide)) (by decide)]
  refine wp_run (k := 1) (pc1 := 108) (l1 := [(0, .ref 0)]) (st1 := [.ref 34, .ref 34, .ref 0]) (kr1 := (35, 33)) (h1 := zg31) rfl ?_
  refine wp_call (md1 := am_m_Numbers_init) (As := [.ref 34]) (rest := [.ref 34, .ref 0]) (kr1 := (36, 34)) rfl (ji_Numbers_init_34 _ (by omega) (zZ_le q_z31 (by decide))) ?_
  rintro _ zg34 ⟨rfl, q_f34, q_n34, q_s34⟩
  have q_z34 : zZ 36 zg34 := zZ_f (zZ_le q_z31 (by decide)) q_f34 (by decide)
  refine wp_run (k := 3) (pc1 := 118) (l1 := [(0, .ref 0)]) (st1 := [.ref 36, .ref 0]) (kr1 := (37, 35)) (h1 := am_z zg34 36) rfl ?_
  rw [am_z_0 (zZ_le (zj := 36) q_z34 (by decide)) (by decide)]
  refine wp_run (k := 1) (pc1 := 119) (l1 := [(0, .ref 0)]) (st1 := [.ref 36, .ref 36, .ref 0]) (kr1 := (37, 35)) (h1 := zg34) rfl ?_
  refine wp_call (md1 := am_m_Plan_init) (As := [.ref 36]) (rest := [.ref 36, .ref 0]) (kr1 := (51, 49)) rfl (ji_Plan_init_36 _ (by omega) (zZ_le q_z34 (by decide))) ?_
  rintro _ zg36 ⟨rfl, q_e36⟩
  have q_f36 : am_fr [36] zg34 zg36 := by rw [← q_e36]; exact am_fr_w (am_fr_0 _ _) (by decide) _ _
  have q_s36 : zg36.1 36 1 = iN 0 := by rw [← q_e36, am_wr_no (by decide), (q_z34 36 (by decide) (by decide)).1]; exact iN_0.symm
  have q_z36 : zZ 51 zg36 := zZ_f (zZ_le q_z34 (by decide)) q_f36 (by decide)
  refine wp_run (k := 3) (pc1 := 129) (l1 := [(0, .ref 0)]) (st1 := [.ref 51, .ref 0]) (kr1 := (52, 50)) (h1 := am_z zg36 51) rfl ?_
  rw [am_z_0 (zZ_le (zj := 51) q_z36 (by decide)) (by decide)]
  refine wp_run (k := 1) (pc1 := 130) (l1 := [(0, .ref 0)]) (st1 := [.ref 51, .ref 51, .ref 0]) (kr1 := (52, 50)) (h1 := zg36) rfl ?_
  refine wp_call (md1 := am_m_Numbers_init) (As := [.ref 51]) (rest := [.ref 51, .ref 0]) (kr1 := (53, 51)) rfl (ji_Numbers_init_51 _ (by omega) (zZ_le q_z36 (by decide))) ?_
  rintro _ zg51 ⟨rfl, q_f51, q_n51, q_s51⟩
  have q_z51 : zZ 53 zg51 := zZ_f (zZ_le q_z36 (by decide)) q_f51 (by decide)
  refine wp_run (k := 3) (pc1 := 140) (l1 := [(0, .ref 0)]) (st1 := [.ref 53, .ref 0]) (kr1 := (54, 52)) (h1 := am_z zg51 53) rfl ?_
  rw [am_z_0 (zZ_le (zj := 53) q_z51 (by decide)) (by decide)]
  refine wp_run (k := 1) (pc1 := 141) (l1 := [(0, .ref 0)]) (st1 := [.ref 53, .ref 53, .ref 0]) (kr1 := (54, 52)) (h1 := zg51) rfl ?_
  refine wp_call (md1 := am_m_ByHand_init) (As := [.ref 53]) (rest := [.ref 53, .ref 0]) (kr1 := (55, 53)) rfl (ji_ByHand_init_53 _ (by omega) (zZ_le q_z51 (by decide))) ?_
  rintro _ _ ⟨rfl, rfl⟩
  refine wp_run (k := 4) (pc1 := 152) (l1 := [(0, .ref 0)]) (st1 := []) (kr1 := (55, 54)) (h1 := am_wr zg51 0 13 (iN (0))) rfl ?_
  refine wp_ret (rv := none) rfl ?_
  refine ⟨rfl, am_fr_w (am_fr_t (am_fr_t (am_fr_t (am_fr_t (am_fr_t (am_fr_m q_f1 (by decide)) (am_fr_m (ks' := [0, 1, 2, 3, 33, 34, 35, 36, 51, 52]) q_f3 (by decide))) (am_fr_m (ks' := [0, 1, 2, 3, 33, 34, 35, 36, 51, 52]) q_f31 (by decide))) (am_fr_m (ks' := [0, 1, 2, 3, 33, 34, 35, 36, 51, 52]) q_f34 (by decide))) (am_fr_m (ks' := [0, 1, 2, 3, 33, 34, 35, 36, 51, 52]) q_f36 (by decide))) (am_fr_m (ks' := [0, 1, 2, 3, 33, 34, 35, 36, 51, 52]) q_f51 (by decide))) (by decide) _ _, ?_, ?_, ?_, ?_, ?_, ?_, ?_⟩
  · rw [am_wr_ne (by decide), am_wr_ne (by decide), q_f51.2 1 (by decide), q_f36.2 1 (by decide), q_f34.2 1 (by decide), q_f31.2 1 (by decide), q_f3.2 1 (by decide), q_f51.2 2 (by decide), q_f36.2 2 (by decide), q_f34.2 2 (by decide), q_f31.2 2 (by decide), q_f3.2 2 (by decide)]; exact q_n1
  · rw [am_wr_ne (by decide), q_f51.2 1 (by decide), q_f36.2 1 (by decide), q_f34.2 1 (by decide), q_f31.2 1 (by decide), q_f3.2 1 (by decide)]; exact q_s1
  · rw [am_wr_ne (by decide), q_f51.2 34 (by decide), q_f36.2 34 (by decide)]; exact q_s34
  · rw [am_wr_ne (by decide), q_f51.2 3 (by decide), q_f36.2 3 (by decide), q_f34.2 3 (by decide), q_f31.2 3 (by decide)]; exact q_s3
  · rw [am_wr_ne (by decide), q_f51.2 36 (by decide)]; exact q_s36
  · intro k y1 y2; rw [am_wr_ne (by decide), q_f51.2 33 (by decide), q_f36.2 33 (by decide), q_f34.2 33 (by decide)]; exact q_n31 k y1 y2
  · exact am_wr_at
