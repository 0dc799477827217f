/-! CHANGES: the class's, the reference's -/
theorem am_row_tw (zh : am_H) {zc zd : Nat} (q : zc ≠ zd) (zf zg zk : Nat → Int32) : am_row (am_row (am_row zh zc zf) zd zg) zc zk = am_row (am_row zh zc zk) zd zg := by
  rw [am_row_sw _ q, am_row_row, am_row_sw _ q.symm]
set_option maxRecDepth 20000 in
set_option maxHeartbeats 4000000 in
theorem jl_lies (zd : Nat) (q_d : 0 ≤ zd) {zh : am_H} {za : Int} (q_a : 0 ≤ za ∧ za ≤ 12) {zQ : Option Value → am_H → Prop} (zk : am_wp zd am_m_Model_lies 31 [(0, .ref 55), (1, .int (iN (za))), (2, .int (iN (98)))] [] (78, 76) (am_row zh 58 (zCq (zh.1 58) (zh.1 56) (98 * za : Int).toNat (0 : Int).toNat (98 : Int).toNat)) (78, 76) zQ) : ∀ (z_n : Nat) (zi : Int) (q_i : 0 ≤ zi ∧ zi ≤ 98), 98 - zi < (z_n : Int) → am_wp zd am_m_Model_lies 2 [(0, .ref 55), (1, .int (iN (za))), (2, .int (iN (zi)))] [] (78, 76) (am_row zh 58 (zCq (zh.1 58) (zh.1 56) (98 * za : Int).toNat (0 : Int).toNat (zi : Int).toNat)) (78, 76) zQ := by
  obtain ⟨zd, rfl⟩ : ∃ y_e, zd = y_e + 0 := ⟨zd - 0, by omega⟩
  intro z_n
  induction z_n with
  | zero => intro zi q_i q_m; omega
  | succ z_n z_ih =>
    intro zi q_i q_m
    refine wp_run (k := 2) (pc1 := 5) (l1 := [(0, .ref 55), (1, .int (iN (za))), (2, .int (iN (zi)))]) (st1 := [.int (iN (98)), .int (iN (zi))]) (kr1 := (78, 76)) (h1 := am_row zh 58 (zCq (zh.1 58) (zh.1 56) (98 * za : Int).toNat (0 : Int).toNat (zi : Int).toNat)) rfl ?_
    refine wp_ge (a := zi) (b := 98) rfl (by omega) (by omega) (fun b_5 => ?_) (fun b_5 => ?_)
    · rw [show zi = 98 by omega]
      exact zk
    · refine wp_run (k := 10) (pc1 := 23) (l1 := [(0, .ref 55), (1, .int (iN (za))), (2, .int (iN (zi)))]) (st1 := [.int (iN (zi)), .ref 56, .int (iN (((98) * (za)) + (zi))), .ref 58]) (kr1 := (78, 76)) (h1 := am_row zh 58 (zCq (zh.1 58) (zh.1 56) (98 * za : Int).toNat (0 : Int).toNat (zi : Int).toNat)) (Eq.trans (b := (some (23, [(0, .ref 55), (1, .int (iN (za))), (2, .int (iN (zi)))], [.int (iN (zi)), .ref 56, .int (((iN (98)) * (iN (za))) + (iN (zi))), .ref 58], (78, 76), am_row zh 58 (zCq (zh.1 58) (zh.1 56) (98 * za : Int).toNat (0 : Int).toNat (zi : Int).toNat)) : Option am_C)) rfl (by simp only [Int32.ofInt_add, Int32.ofInt_sub, Int32.ofInt_mul, Int32.ofInt_neg])) ?_
      refine wp_iald (f := (am_row zh 58 (zCq (zh.1 58) (zh.1 56) (98 * za : Int).toNat (0 : Int).toNat (zi : Int).toNat)).1 56) (z := zi) (j := (zi).toNat) (n := 98) (v := zh.1 56 (0 + zi).toNat) rfl rfl (by omega) (by omega) (by decide) ((congrFun (am_row_n _ _ _ (by decide)) _).trans (congrArg (zh.1 56) (by omega))) ?_
      refine wp_iast (z := ((98) * (za)) + (zi)) (j := (((98) * (za)) + (zi)).toNat) (n := 1274) rfl (by decide) (by decide) rfl rfl (by omega) (by omega) (by decide) ?_
      refine wp_run (k := 2) (pc1 := 2) (l1 := [(0, .ref 55), (1, .int (iN (za))), (2, .int (iN ((zi) + 1)))]) (st1 := []) (kr1 := (78, 76)) (h1 := am_wr (am_row zh 58 (zCq (zh.1 58) (zh.1 56) (98 * za : Int).toNat (0 : Int).toNat (zi : Int).toNat)) 58 ((((98) * (za)) + (zi)).toNat) (zh.1 56 (0 + zi).toNat)) (Eq.trans (b := (some (2, [(0, .ref 55), (1, .int (iN (za))), (2, .int ((iN (zi)) + iN (1)))], [], (78, 76), am_wr (am_row zh 58 (zCq (zh.1 58) (zh.1 56) (98 * za : Int).toNat (0 : Int).toNat (zi : Int).toNat)) 58 ((((98) * (za)) + (zi)).toNat) (zh.1 56 (0 + zi).toNat)) : Option am_C)) rfl (by simp only [Int32.ofInt_add, Int32.ofInt_sub, Int32.ofInt_mul, Int32.ofInt_neg])) ?_
      rw [zCq_w zh 58 (zh.1 58) (zh.1 56) (98 * za) (0) zi (by omega) (by omega) (by omega) (by omega) rfl]
      exact z_ih (zi + 1) (by omega) (by omega)
set_option maxRecDepth 20000 in
set_option maxHeartbeats 4000000 in
theorem jm_lies (zd : Nat) (q_d : 0 ≤ zd) {zh : am_H} {za : Int} (q_a : 0 ≤ za ∧ za ≤ 12) : am_wp zd am_m_Model_lies 0 [(0, .ref 55), (1, .int (iN (za)))] [] (78, 76) zh (78, 76) (fun rv h' => rv = none ∧ am_row zh 58 (zCq (zh.1 58) (zh.1 56) (98 * za).toNat 0 98) = h') := by
  obtain ⟨zd, rfl⟩ : ∃ y_e, zd = y_e + 0 := ⟨zd - 0, by omega⟩
  refine wp_run (k := 2) (pc1 := 2) (l1 := [(0, .ref 55), (1, .int (iN (za))), (2, .int (iN (0)))]) (st1 := []) (kr1 := (78, 76)) (h1 := zh) rfl ?_
  refine Eq.mpr (congrArg (fun y_h => am_wp _ _ _ _ _ _ y_h _ _) (show zh = am_row zh 58 (zCq (zh.1 58) (zh.1 56) (98 * za : Int).toNat (0 : Int).toNat (0 : Int).toNat) from by rw [show (0 : Int).toNat = 0 from rfl, zCq_0, am_row_id])) ?_
  refine jl_lies (zh := zh) _ (by omega) q_a ?_ 99 0 (by omega) (by omega)
  refine wp_ret (rv := none) rfl ?_
  exact ⟨rfl, rfl⟩
set_option maxRecDepth 20000 in
set_option maxHeartbeats 4000000 in
theorem jl_comesBack (zd : Nat) (q_d : 0 ≤ zd) {zh : am_H} {za : Int} (q_a : 0 ≤ za ∧ za ≤ 12) {zQ : Option Value → am_H → Prop} (zk : am_wp zd am_m_Model_comesBack 31 [(0, .ref 55), (1, .int (iN (za))), (2, .int (iN (98)))] [] (78, 76) (am_row zh 56 (zCq (zh.1 56) (zh.1 58) (0 : Int).toNat (98 * za : Int).toNat (98 : Int).toNat)) (78, 76) zQ) : ∀ (z_n : Nat) (zi : Int) (q_i : 0 ≤ zi ∧ zi ≤ 98), 98 - zi < (z_n : Int) → am_wp zd am_m_Model_comesBack 2 [(0, .ref 55), (1, .int (iN (za))), (2, .int (iN (zi)))] [] (78, 76) (am_row zh 56 (zCq (zh.1 56) (zh.1 58) (0 : Int).toNat (98 * za : Int).toNat (zi : Int).toNat)) (78, 76) zQ := by
  obtain ⟨zd, rfl⟩ : ∃ y_e, zd = y_e + 0 := ⟨zd - 0, by omega⟩
  intro z_n
  induction z_n with
  | zero => intro zi q_i q_m; omega
  | succ z_n z_ih =>
    intro zi q_i q_m
    refine wp_run (k := 2) (pc1 := 5) (l1 := [(0, .ref 55), (1, .int (iN (za))), (2, .int (iN (zi)))]) (st1 := [.int (iN (98)), .int (iN (zi))]) (kr1 := (78, 76)) (h1 := am_row zh 56 (zCq (zh.1 56) (zh.1 58) (0 : Int).toNat (98 * za : Int).toNat (zi : Int).toNat)) rfl ?_
    refine wp_ge (a := zi) (b := 98) rfl (by omega) (by omega) (fun b_5 => ?_) (fun b_5 => ?_)
    · rw [show zi = 98 by omega]
      exact zk
    · refine wp_run (k := 10) (pc1 := 23) (l1 := [(0, .ref 55), (1, .int (iN (za))), (2, .int (iN (zi)))]) (st1 := [.int (iN (((98) * (za)) + (zi))), .ref 58, .int (iN (zi)), .ref 56]) (kr1 := (78, 76)) (h1 := am_row zh 56 (zCq (zh.1 56) (zh.1 58) (0 : Int).toNat (98 * za : Int).toNat (zi : Int).toNat)) (Eq.trans (b := (some (23, [(0, .ref 55), (1, .int (iN (za))), (2, .int (iN (zi)))], [.int (((iN (98)) * (iN (za))) + (iN (zi))), .ref 58, .int (iN (zi)), .ref 56], (78, 76), am_row zh 56 (zCq (zh.1 56) (zh.1 58) (0 : Int).toNat (98 * za : Int).toNat (zi : Int).toNat)) : Option am_C)) rfl (by simp only [Int32.ofInt_add, Int32.ofInt_sub, Int32.ofInt_mul, Int32.ofInt_neg])) ?_
      refine wp_iald (f := (am_row zh 56 (zCq (zh.1 56) (zh.1 58) (0 : Int).toNat (98 * za : Int).toNat (zi : Int).toNat)).1 58) (z := ((98) * (za)) + (zi)) (j := (((98) * (za)) + (zi)).toNat) (n := 1274) (v := zh.1 58 (98 * za + zi).toNat) rfl rfl (by omega) (by omega) (by decide) ((congrFun (am_row_n _ _ _ (by decide)) _).trans (congrArg (zh.1 58) (by omega))) ?_
      refine wp_iast (z := zi) (j := (zi).toNat) (n := 98) rfl (by decide) (by decide) rfl rfl (by omega) (by omega) (by decide) ?_
      refine wp_run (k := 2) (pc1 := 2) (l1 := [(0, .ref 55), (1, .int (iN (za))), (2, .int (iN ((zi) + 1)))]) (st1 := []) (kr1 := (78, 76)) (h1 := am_wr (am_row zh 56 (zCq (zh.1 56) (zh.1 58) (0 : Int).toNat (98 * za : Int).toNat (zi : Int).toNat)) 56 ((zi).toNat) (zh.1 58 (98 * za + zi).toNat)) (Eq.trans (b := (some (2, [(0, .ref 55), (1, .int (iN (za))), (2, .int ((iN (zi)) + iN (1)))], [], (78, 76), am_wr (am_row zh 56 (zCq (zh.1 56) (zh.1 58) (0 : Int).toNat (98 * za : Int).toNat (zi : Int).toNat)) 56 ((zi).toNat) (zh.1 58 (98 * za + zi).toNat)) : Option am_C)) rfl (by simp only [Int32.ofInt_add, Int32.ofInt_sub, Int32.ofInt_mul, Int32.ofInt_neg])) ?_
      rw [zCq_w zh 56 (zh.1 56) (zh.1 58) (0) (98 * za) zi (by omega) (by omega) (by omega) (by omega) rfl]
      exact z_ih (zi + 1) (by omega) (by omega)
set_option maxRecDepth 20000 in
set_option maxHeartbeats 4000000 in
theorem jm_comesBack (zd : Nat) (q_d : 0 ≤ zd) {zh : am_H} {za : Int} (q_a : 0 ≤ za ∧ za ≤ 12) : am_wp zd am_m_Model_comesBack 0 [(0, .ref 55), (1, .int (iN (za)))] [] (78, 76) zh (78, 76) (fun rv h' => rv = none ∧ am_row zh 56 (zCq (zh.1 56) (zh.1 58) 0 (98 * za).toNat 98) = h') := by
  obtain ⟨zd, rfl⟩ : ∃ y_e, zd = y_e + 0 := ⟨zd - 0, by omega⟩
  refine wp_run (k := 2) (pc1 := 2) (l1 := [(0, .ref 55), (1, .int (iN (za))), (2, .int (iN (0)))]) (st1 := []) (kr1 := (78, 76)) (h1 := zh) rfl ?_
  refine Eq.mpr (congrArg (fun y_h => am_wp _ _ _ _ _ _ y_h _ _) (show zh = am_row zh 56 (zCq (zh.1 56) (zh.1 58) (0 : Int).toNat (98 * za : Int).toNat (0 : Int).toNat) from by rw [show (0 : Int).toNat = 0 from rfl, zCq_0, am_row_id])) ?_
  refine jl_comesBack (zh := zh) _ (by omega) q_a ?_ 99 0 (by omega) (by omega)
  refine wp_ret (rv := none) rfl ?_
  exact ⟨rfl, rfl⟩
set_option maxRecDepth 20000 in
set_option maxHeartbeats 4000000 in
theorem jm_noChanges (zd : Nat) (q_d : 1 ≤ zd) {zh : am_H}  : am_wp zd am_m_Model_noChanges 0 [(0, .ref 55)] [] (78, 76) zh (78, 76) (fun rv h' => rv = none ∧ am_row (am_row zh 55 (zUp (zUp (zh.1 55) 4 (iN 0)) 5 (iN 0))) 58 (zCq (zh.1 58) (zh.1 56) 0 0 98) = h') := by
  obtain ⟨zd, rfl⟩ : ∃ y_e, zd = y_e + 1 := ⟨zd - 1, by omega⟩
  refine wp_run (k := 8) (pc1 := 12) (l1 := [(0, .ref 55)]) (st1 := [.int (iN (0)), .ref 55]) (kr1 := (78, 76)) (h1 := am_wr (am_wr zh 55 4 (iN (0))) 55 5 (iN (0))) rfl ?_
  refine wp_call (md1 := am_m_Model_lies) (As := [.ref 55, .int (iN (0))]) (rest := []) (kr1 := (78, 76)) rfl (jm_lies _ (by omega) (za := 0) (by omega)) ?_
  rintro _ _ ⟨rfl, rfl⟩
  refine wp_ret (rv := none) rfl ?_
  refine ⟨rfl, ?_⟩
  rw [am_wr_row _ 55 4, am_wr_row2, am_row_n _ _ _ (by decide), am_row_n _ _ _ (by decide)]
  rfl
set_option maxRecDepth 20000 in
set_option maxHeartbeats 4000000 in
theorem jl_fresh (zd : Nat) (q_d : 0 ≤ zd) {zh : am_H} {zp : Int} (q_p : 0 ≤ zp ∧ zp < 16) {zQ : Option Value → am_H → Prop} (zk : am_wp zd am_m_Model_fresh 64 [(0, .ref 55), (1, .int (iN (zp))), (2, .int (iN (6)))] [] (78, 76) (am_row zh 56 (zFw (zh.1 56) zp.toNat (6 : Int).toNat)) (78, 76) zQ) : ∀ (z_n : Nat) (zi : Int) (q_i : 0 ≤ zi ∧ zi ≤ 6), 6 - zi < (z_n : Int) → am_wp zd am_m_Model_fresh 2 [(0, .ref 55), (1, .int (iN (zp))), (2, .int (iN (zi)))] [] (78, 76) (am_row zh 56 (zFw (zh.1 56) zp.toNat (zi : Int).toNat)) (78, 76) zQ := by
  obtain ⟨zd, rfl⟩ : ∃ y_e, zd = y_e + 0 := ⟨zd - 0, by omega⟩
  intro z_n
  induction z_n with
  | zero => intro zi q_i q_m; omega
  | succ z_n z_ih =>
    intro zi q_i q_m
    refine wp_run (k := 2) (pc1 := 5) (l1 := [(0, .ref 55), (1, .int (iN (zp))), (2, .int (iN (zi)))]) (st1 := [.int (iN (6)), .int (iN (zi))]) (kr1 := (78, 76)) (h1 := am_row zh 56 (zFw (zh.1 56) zp.toNat (zi : Int).toNat)) rfl ?_
    refine wp_ge (a := zi) (b := 6) rfl (by omega) (by omega) (fun b_5 => ?_) (fun b_5 => ?_)
    · rw [show zi = 6 by omega]
      exact zk
    · refine wp_run (k := 8) (pc1 := 19) (l1 := [(0, .ref 55), (1, .int (iN (zp))), (2, .int (iN (zi)))]) (st1 := [.int (iN (zi)), .int (iN (((16) * (zi)) + (zp))), .ref 56]) (kr1 := (78, 76)) (h1 := am_row zh 56 (zFw (zh.1 56) zp.toNat (zi : Int).toNat)) (Eq.trans (b := (some (19, [(0, .ref 55), (1, .int (iN (zp))), (2, .int (iN (zi)))], [.int (iN (zi)), .int (((iN (16)) * (iN (zi))) + (iN (zp))), .ref 56], (78, 76), am_row zh 56 (zFw (zh.1 56) zp.toNat (zi : Int).toNat)) : Option am_C)) rfl (by simp only [Int32.ofInt_add, Int32.ofInt_sub, Int32.ofInt_mul, Int32.ofInt_neg])) ?_
      refine wp_ne0 (a := zi) rfl (by omega) (fun b_19 => ?_) (fun b_19 => ?_)
      · refine wp_run (k := 2) (pc1 := 28) (l1 := [(0, .ref 55), (1, .int (iN (zp))), (2, .int (iN (zi)))]) (st1 := [.int (iN (1)), .int (iN (zi)), .int (iN (((16) * (zi)) + (zp))), .ref 56]) (kr1 := (78, 76)) (h1 := am_row zh 56 (zFw (zh.1 56) zp.toNat (zi : Int).toNat)) rfl ?_
        refine wp_ne (a := zi) (b := 1) rfl (by omega) (by omega) (fun b_28 => ?_) (fun b_28 => ?_)
        · refine wp_run (k := 2) (pc1 := 38) (l1 := [(0, .ref 55), (1, .int (iN (zp))), (2, .int (iN (zi)))]) (st1 := [.int (iN (5)), .int (iN (zi)), .int (iN (((16) * (zi)) + (zp))), .ref 56]) (kr1 := (78, 76)) (h1 := am_row zh 56 (zFw (zh.1 56) zp.toNat (zi : Int).toNat)) rfl ?_
          refine wp_ne (a := zi) (b := 5) rfl (by omega) (by omega) (fun b_38 => ?_) (fun b_38 => ?_)
          · refine wp_run (k := 2) (pc1 := 49) (l1 := [(0, .ref 55), (1, .int (iN (zp))), (2, .int (iN (zi)))]) (st1 := [.int (iN (4)), .int (iN (zi)), .int (iN (((16) * (zi)) + (zp))), .ref 56]) (kr1 := (78, 76)) (h1 := am_row zh 56 (zFw (zh.1 56) zp.toNat (zi : Int).toNat)) rfl ?_
            refine wp_ne (a := zi) (b := 4) rfl (by omega) (by omega) (fun b_49 => ?_) (fun b_49 => ?_)
            · refine wp_run (k := 1) (pc1 := 57) (l1 := [(0, .ref 55), (1, .int (iN (zp))), (2, .int (iN (zi)))]) (st1 := [.int (iN (1)), .int (iN (((16) * (zi)) + (zp))), .ref 56]) (kr1 := (78, 76)) (h1 := am_row zh 56 (zFw (zh.1 56) zp.toNat (zi : Int).toNat)) rfl ?_
              refine wp_iast (z := ((16) * (zi)) + (zp)) (j := (((16) * (zi)) + (zp) : Int).toNat) (n := 98) rfl (by decide) (by decide) rfl rfl (by omega) (by omega) (by decide) ?_
              refine wp_run (k := 2) (pc1 := 2) (l1 := [(0, .ref 55), (1, .int (iN (zp))), (2, .int (iN ((zi) + 1)))]) (st1 := []) (kr1 := (78, 76)) (h1 := am_wr (am_row zh 56 (zFw (zh.1 56) zp.toNat (zi : Int).toNat)) 56 ((((16) * (zi)) + (zp) : Int).toNat) (iN (1))) (Eq.trans (b := (some (2, [(0, .ref 55), (1, .int (iN (zp))), (2, .int ((iN (zi)) + iN (1)))], [], (78, 76), am_wr (am_row zh 56 (zFw (zh.1 56) zp.toNat (zi : Int).toNat)) 56 ((((16) * (zi)) + (zp) : Int).toNat) (iN (1))) : Option am_C)) rfl (by simp only [Int32.ofInt_add, Int32.ofInt_sub, Int32.ofInt_mul, Int32.ofInt_neg])) ?_
              rw [am_wr_row2, show (zUp (zFw (zh.1 56) zp.toNat zi.toNat) (((16) * (zi)) + (zp) : Int).toNat (iN (1))) = zFw (zh.1 56) zp.toNat (zi + 1).toNat from by rw [show (zi + 1).toNat = zi.toNat + 1 by omega, show (((16) * (zi)) + (zp) : Int).toNat = 16 * zi.toNat + zp.toNat by omega]; show _ = zUp _ _ (iN (zF1 (zi.toNat : Int))); rw [show zF1 (zi.toNat : Int) = 1 from by rw [show (zi.toNat : Int) = zi by omega]; unfold zF1; (repeat' split) <;> omega]]
              exact z_ih (zi + 1) (by omega) (by omega)
            · refine wp_run (k := 2) (pc1 := 57) (l1 := [(0, .ref 55), (1, .int (iN (zp))), (2, .int (iN (zi)))]) (st1 := [.int (iN (5)), .int (iN (((16) * (zi)) + (zp))), .ref 56]) (kr1 := (78, 76)) (h1 := am_row zh 56 (zFw (zh.1 56) zp.toNat (zi : Int).toNat)) rfl ?_
              refine wp_iast (z := ((16) * (zi)) + (zp)) (j := (((16) * (zi)) + (zp) : Int).toNat) (n := 98) rfl (by decide) (by decide) rfl rfl (by omega) (by omega) (by decide) ?_
              refine wp_run (k := 2) (pc1 := 2) (l1 := [(0, .ref 55), (1, .int (iN (zp))), (2, .int (iN ((zi) + 1)))]) (st1 := []) (kr1 := (78, 76)) (h1 := am_wr (am_row zh 56 (zFw (zh.1 56) zp.toNat (zi : Int).toNat)) 56 ((((16) * (zi)) + (zp) : Int).toNat) (iN (5))) (Eq.trans (b := (some (2, [(0, .ref 55), (1, .int (iN (zp))), (2, .int ((iN (zi)) + iN (1)))], [], (78, 76), am_wr (am_row zh 56 (zFw (zh.1 56) zp.toNat (zi : Int).toNat)) 56 ((((16) * (zi)) + (zp) : Int).toNat) (iN (5))) : Option am_C)) rfl (by simp only [Int32.ofInt_add, Int32.ofInt_sub, Int32.ofInt_mul, Int32.ofInt_neg])) ?_
              rw [am_wr_row2, show (zUp (zFw (zh.1 56) zp.toNat zi.toNat) (((16) * (zi)) + (zp) : Int).toNat (iN (5))) = zFw (zh.1 56) zp.toNat (zi + 1).toNat from by rw [show (zi + 1).toNat = zi.toNat + 1 by omega, show (((16) * (zi)) + (zp) : Int).toNat = 16 * zi.toNat + zp.toNat by omega]; show _ = zUp _ _ (iN (zF1 (zi.toNat : Int))); rw [show zF1 (zi.toNat : Int) = 5 from by rw [show (zi.toNat : Int) = zi by omega]; unfold zF1; (repeat' split) <;> omega]]
              exact z_ih (zi + 1) (by omega) (by omega)
          · refine wp_run (k := 2) (pc1 := 57) (l1 := [(0, .ref 55), (1, .int (iN (zp))), (2, .int (iN (zi)))]) (st1 := [.int (iN (999)), .int (iN (((16) * (zi)) + (zp))), .ref 56]) (kr1 := (78, 76)) (h1 := am_row zh 56 (zFw (zh.1 56) zp.toNat (zi : Int).toNat)) rfl ?_
            refine wp_iast (z := ((16) * (zi)) + (zp)) (j := (((16) * (zi)) + (zp) : Int).toNat) (n := 98) rfl (by decide) (by decide) rfl rfl (by omega) (by omega) (by decide) ?_
            refine wp_run (k := 2) (pc1 := 2) (l1 := [(0, .ref 55), (1, .int (iN (zp))), (2, .int (iN ((zi) + 1)))]) (st1 := []) (kr1 := (78, 76)) (h1 := am_wr (am_row zh 56 (zFw (zh.1 56) zp.toNat (zi : Int).toNat)) 56 ((((16) * (zi)) + (zp) : Int).toNat) (iN (999))) (Eq.trans (b := (some (2, [(0, .ref 55), (1, .int (iN (zp))), (2, .int ((iN (zi)) + iN (1)))], [], (78, 76), am_wr (am_row zh 56 (zFw (zh.1 56) zp.toNat (zi : Int).toNat)) 56 ((((16) * (zi)) + (zp) : Int).toNat) (iN (999))) : Option am_C)) rfl (by simp only [Int32.ofInt_add, Int32.ofInt_sub, Int32.ofInt_mul, Int32.ofInt_neg])) ?_
            rw [am_wr_row2, show (zUp (zFw (zh.1 56) zp.toNat zi.toNat) (((16) * (zi)) + (zp) : Int).toNat (iN (999))) = zFw (zh.1 56) zp.toNat (zi + 1).toNat from by rw [show (zi + 1).toNat = zi.toNat + 1 by omega, show (((16) * (zi)) + (zp) : Int).toNat = 16 * zi.toNat + zp.toNat by omega]; show _ = zUp _ _ (iN (zF1 (zi.toNat : Int))); rw [show zF1 (zi.toNat : Int) = 999 from by rw [show (zi.toNat : Int) = zi by omega]; unfold zF1; (repeat' split) <;> omega]]
            exact z_ih (zi + 1) (by omega) (by omega)
        · refine wp_run (k := 2) (pc1 := 57) (l1 := [(0, .ref 55), (1, .int (iN (zp))), (2, .int (iN (zi)))]) (st1 := [.int (iN (50)), .int (iN (((16) * (zi)) + (zp))), .ref 56]) (kr1 := (78, 76)) (h1 := am_row zh 56 (zFw (zh.1 56) zp.toNat (zi : Int).toNat)) rfl ?_
          refine wp_iast (z := ((16) * (zi)) + (zp)) (j := (((16) * (zi)) + (zp) : Int).toNat) (n := 98) rfl (by decide) (by decide) rfl rfl (by omega) (by omega) (by decide) ?_
          refine wp_run (k := 2) (pc1 := 2) (l1 := [(0, .ref 55), (1, .int (iN (zp))), (2, .int (iN ((zi) + 1)))]) (st1 := []) (kr1 := (78, 76)) (h1 := am_wr (am_row zh 56 (zFw (zh.1 56) zp.toNat (zi : Int).toNat)) 56 ((((16) * (zi)) + (zp) : Int).toNat) (iN (50))) (Eq.trans (b := (some (2, [(0, .ref 55), (1, .int (iN (zp))), (2, .int ((iN (zi)) + iN (1)))], [], (78, 76), am_wr (am_row zh 56 (zFw (zh.1 56) zp.toNat (zi : Int).toNat)) 56 ((((16) * (zi)) + (zp) : Int).toNat) (iN (50))) : Option am_C)) rfl (by simp only [Int32.ofInt_add, Int32.ofInt_sub, Int32.ofInt_mul, Int32.ofInt_neg])) ?_
          rw [am_wr_row2, show (zUp (zFw (zh.1 56) zp.toNat zi.toNat) (((16) * (zi)) + (zp) : Int).toNat (iN (50))) = zFw (zh.1 56) zp.toNat (zi + 1).toNat from by rw [show (zi + 1).toNat = zi.toNat + 1 by omega, show (((16) * (zi)) + (zp) : Int).toNat = 16 * zi.toNat + zp.toNat by omega]; show _ = zUp _ _ (iN (zF1 (zi.toNat : Int))); rw [show zF1 (zi.toNat : Int) = 50 from by rw [show (zi.toNat : Int) = zi by omega]; unfold zF1; (repeat' split) <;> omega]]
          exact z_ih (zi + 1) (by omega) (by omega)
      · refine wp_run (k := 2) (pc1 := 57) (l1 := [(0, .ref 55), (1, .int (iN (zp))), (2, .int (iN (zi)))]) (st1 := [.int (iN (0)), .int (iN (((16) * (zi)) + (zp))), .ref 56]) (kr1 := (78, 76)) (h1 := am_row zh 56 (zFw (zh.1 56) zp.toNat (zi : Int).toNat)) rfl ?_
        refine wp_iast (z := ((16) * (zi)) + (zp)) (j := (((16) * (zi)) + (zp) : Int).toNat) (n := 98) rfl (by decide) (by decide) rfl rfl (by omega) (by omega) (by decide) ?_
        refine wp_run (k := 2) (pc1 := 2) (l1 := [(0, .ref 55), (1, .int (iN (zp))), (2, .int (iN ((zi) + 1)))]) (st1 := []) (kr1 := (78, 76)) (h1 := am_wr (am_row zh 56 (zFw (zh.1 56) zp.toNat (zi : Int).toNat)) 56 ((((16) * (zi)) + (zp) : Int).toNat) (iN (0))) (Eq.trans (b := (some (2, [(0, .ref 55), (1, .int (iN (zp))), (2, .int ((iN (zi)) + iN (1)))], [], (78, 76), am_wr (am_row zh 56 (zFw (zh.1 56) zp.toNat (zi : Int).toNat)) 56 ((((16) * (zi)) + (zp) : Int).toNat) (iN (0))) : Option am_C)) rfl (by simp only [Int32.ofInt_add, Int32.ofInt_sub, Int32.ofInt_mul, Int32.ofInt_neg])) ?_
        rw [am_wr_row2, show (zUp (zFw (zh.1 56) zp.toNat zi.toNat) (((16) * (zi)) + (zp) : Int).toNat (iN (0))) = zFw (zh.1 56) zp.toNat (zi + 1).toNat from by rw [show (zi + 1).toNat = zi.toNat + 1 by omega, show (((16) * (zi)) + (zp) : Int).toNat = 16 * zi.toNat + zp.toNat by omega]; show _ = zUp _ _ (iN (zF1 (zi.toNat : Int))); rw [show zF1 (zi.toNat : Int) = 0 from by rw [show (zi.toNat : Int) = zi by omega]; unfold zF1; (repeat' split) <;> omega]]
        exact z_ih (zi + 1) (by omega) (by omega)
set_option maxRecDepth 20000 in
set_option maxHeartbeats 4000000 in
theorem jm_fresh (zd : Nat) (q_d : 0 ≤ zd) {zh : am_H} {zp : Int} (q_p : 0 ≤ zp ∧ zp < 16) : am_wp zd am_m_Model_fresh 0 [(0, .ref 55), (1, .int (iN (zp)))] [] (78, 76) zh (78, 76) (fun rv h' => rv = none ∧ am_row (am_row zh 56 (zFw (zh.1 56) zp.toNat 6)) 57 (zUp (zh.1 57) zp.toNat (iN 0)) = h') := by
  obtain ⟨zd, rfl⟩ : ∃ y_e, zd = y_e + 0 := ⟨zd - 0, by omega⟩
  refine wp_run (k := 2) (pc1 := 2) (l1 := [(0, .ref 55), (1, .int (iN (zp))), (2, .int (iN (0)))]) (st1 := []) (kr1 := (78, 76)) (h1 := zh) rfl ?_
  refine Eq.mpr (congrArg (fun y_h => am_wp _ _ _ _ _ _ y_h _ _) (show zh = am_row zh 56 (zFw (zh.1 56) zp.toNat (0 : Int).toNat) from (am_row_id _ _).symm)) ?_
  refine jl_fresh _ (by omega) q_p ?_ 7 0 (by omega) (by omega)
  refine wp_run (k := 4) (pc1 := 70) (l1 := [(0, .ref 55), (1, .int (iN (zp))), (2, .int (iN (6)))]) (st1 := [.int (iN (0)), .int (iN (zp)), .ref 57]) (kr1 := (78, 76)) (h1 := am_row zh 56 (zFw (zh.1 56) zp.toNat (6 : Int).toNat)) rfl ?_
  refine wp_iast (z := zp) (j := (zp).toNat) (n := 16) rfl (by decide) (by decide) rfl rfl (by omega) (by omega) (by decide) ?_
  refine wp_ret (rv := none) rfl ?_
  exact ⟨rfl, by rw [am_wr_row, am_row_n _ _ _ (by decide)]; rfl⟩
set_option maxRecDepth 20000 in
set_option maxHeartbeats 4000000 in
theorem jl_mshift (zd : Nat) (q_d : 0 ≤ zd) {zh : am_H}   {zQ : Option Value → am_H → Prop} (zk : am_wp zd am_m_Model_changed 39 [(0, .ref 55), (1, .int (iN (1176)))] [] (78, 76) (am_row zh 58 (zCq (zh.1 58) (zh.1 58) (0 : Int).toNat (98 : Int).toNat (1176 : Int).toNat)) (78, 76) zQ) : ∀ (z_n : Nat) (zi : Int) (q_i : 0 ≤ zi ∧ zi ≤ 1176), 1176 - zi < (z_n : Int) → am_wp zd am_m_Model_changed 11 [(0, .ref 55), (1, .int (iN (zi)))] [] (78, 76) (am_row zh 58 (zCq (zh.1 58) (zh.1 58) (0 : Int).toNat (98 : Int).toNat (zi : Int).toNat)) (78, 76) zQ := by
  obtain ⟨zd, rfl⟩ : ∃ y_e, zd = y_e + 0 := ⟨zd - 0, by omega⟩
  intro z_n
  induction z_n with
  | zero => intro zi q_i q_m; omega
  | succ z_n z_ih =>
    intro zi q_i q_m
    refine wp_run (k := 2) (pc1 := 15) (l1 := [(0, .ref 55), (1, .int (iN (zi)))]) (st1 := [.int (iN (1176)), .int (iN (zi))]) (kr1 := (78, 76)) (h1 := am_row zh 58 (zCq (zh.1 58) (zh.1 58) (0 : Int).toNat (98 : Int).toNat (zi : Int).toNat)) rfl ?_
    refine wp_ge (a := zi) (b := 1176) rfl (by omega) (by omega) (fun b_15 => ?_) (fun b_15 => ?_)
    · rw [show zi = 1176 by omega]
      exact zk
    · refine wp_run (k := 8) (pc1 := 31) (l1 := [(0, .ref 55), (1, .int (iN (zi)))]) (st1 := [.int (iN ((zi) + (98))), .ref 58, .int (iN (zi)), .ref 58]) (kr1 := (78, 76)) (h1 := am_row zh 58 (zCq (zh.1 58) (zh.1 58) (0 : Int).toNat (98 : Int).toNat (zi : Int).toNat)) (Eq.trans (b := (some (31, [(0, .ref 55), (1, .int (iN (zi)))], [.int ((iN (zi)) + (iN (98))), .ref 58, .int (iN (zi)), .ref 58], (78, 76), am_row zh 58 (zCq (zh.1 58) (zh.1 58) (0 : Int).toNat (98 : Int).toNat (zi : Int).toNat)) : Option am_C)) rfl (by simp only [Int32.ofInt_add, Int32.ofInt_sub, Int32.ofInt_mul, Int32.ofInt_neg])) ?_
      refine wp_iald (f := (am_row zh 58 (zCq (zh.1 58) (zh.1 58) (0 : Int).toNat (98 : Int).toNat (zi : Int).toNat)).1 58) (z := (zi) + (98)) (j := ((zi) + (98)).toNat) (n := 1274) (v := zh.1 58 (98 + zi).toNat) rfl rfl (by omega) (by omega) (by decide) (((congrFun (am_row_s _ _ _) _).trans (zCq_o _ _ (by omega))).trans (congrArg (zh.1 58) (by omega))) ?_
      refine wp_iast (z := zi) (j := (zi).toNat) (n := 1274) rfl (by decide) (by decide) rfl rfl (by omega) (by omega) (by decide) ?_
      refine wp_run (k := 2) (pc1 := 11) (l1 := [(0, .ref 55), (1, .int (iN ((zi) + 1)))]) (st1 := []) (kr1 := (78, 76)) (h1 := am_wr (am_row zh 58 (zCq (zh.1 58) (zh.1 58) (0 : Int).toNat (98 : Int).toNat (zi : Int).toNat)) 58 ((zi).toNat) (zh.1 58 (98 + zi).toNat)) (Eq.trans (b := (some (11, [(0, .ref 55), (1, .int ((iN (zi)) + iN (1)))], [], (78, 76), am_wr (am_row zh 58 (zCq (zh.1 58) (zh.1 58) (0 : Int).toNat (98 : Int).toNat (zi : Int).toNat)) 58 ((zi).toNat) (zh.1 58 (98 + zi).toNat)) : Option am_C)) rfl (by simp only [Int32.ofInt_add, Int32.ofInt_sub, Int32.ofInt_mul, Int32.ofInt_neg])) ?_
      rw [zCq_w zh 58 (zh.1 58) (zh.1 58) (0) (98) zi (by omega) (by omega) (by omega) (by omega) rfl]
      exact z_ih (zi + 1) (by omega) (by omega)
set_option maxRecDepth 20000 in
set_option maxHeartbeats 4000000 in
theorem jl_chg49 (zd : Nat) (q_d : 1 ≤ zd) {zh : am_H} {zx : Int} (q_x : zh.1 55 4 = iN zx) (q_r : 0 ≤ zx ∧ zx ≤ 11) : am_wp zd am_m_Model_changed 49 [(0, .ref 55)] [] (78, 76) zh (78, 76) (fun rv h' => rv = none ∧ ∃ fo, am_row (am_row zh 58 (zCq (zh.1 58) (zh.1 56) (98 * (zx + 1)).toNat 0 98)) 55 fo = h' ∧ (∀ k : Nat, k ≠ 4 → k ≠ 5 → fo k = zh.1 55 k) ∧ fo 4 = iN (zx + 1) ∧ fo 5 = iN (zx + 1)) := by
  obtain ⟨zd, rfl⟩ : ∃ y_e, zd = y_e + 1 := ⟨zd - 1, by omega⟩
  refine wp_run (k := 5) (pc1 := 56) (l1 := [(0, .ref 55)]) (st1 := [.int (iN ((zx) + (1))), .ref 55]) (kr1 := (78, 76)) (h1 := zh) (Eq.trans (b := (some (56, [(0, .ref 55)], [.int ((zh.1 55 4) + (iN (1))), .ref 55], (78, 76), zh) : Option am_C)) rfl (by simp only [q_x, Int32.ofInt_add, Int32.ofInt_sub, Int32.ofInt_mul, Int32.ofInt_neg])) ?_
  refine wp_run (k := 4) (pc1 := 64) (l1 := [(0, .ref 55)]) (st1 := [.int (iN ((zx) + (1))), .ref 55]) (kr1 := (78, 76)) (h1 := am_wr zh 55 4 (iN ((zx) + (1)))) (Eq.trans (b := (some (64, [(0, .ref 55)], [.int ((am_wr zh 55 4 (iN ((zx) + (1)))).1 55 4), .ref 55], (78, 76), am_wr zh 55 4 (iN ((zx) + (1)))) : Option am_C)) rfl (by simp only [(show (am_wr zh 55 4 (iN ((zx) + (1)))).1 55 4 = iN ((zx) + (1)) from by first | rw [am_wr_eq, if_pos rfl] | rw [am_wr_eq, if_neg (by decide), am_wr_eq, if_pos rfl])]; try simp only [Int32.ofInt_add, Int32.ofInt_sub, Int32.ofInt_mul, Int32.ofInt_neg])) ?_
  refine wp_run (k := 4) (pc1 := 72) (l1 := [(0, .ref 55)]) (st1 := [.int (iN ((zx) + (1))), .ref 55]) (kr1 := (78, 76)) (h1 := am_wr (am_wr zh 55 4 (iN ((zx) + (1)))) 55 5 (iN ((zx) + (1)))) (Eq.trans (b := (some (72, [(0, .ref 55)], [.int ((am_wr (am_wr zh 55 4 (iN ((zx) + (1)))) 55 5 (iN ((zx) + (1)))).1 55 4), .ref 55], (78, 76), am_wr (am_wr zh 55 4 (iN ((zx) + (1)))) 55 5 (iN ((zx) + (1)))) : Option am_C)) rfl (by simp only [(show (am_wr (am_wr zh 55 4 (iN ((zx) + (1)))) 55 5 (iN ((zx) + (1)))).1 55 4 = iN ((zx) + (1)) from by first | rw [am_wr_eq, if_pos rfl] | rw [am_wr_eq, if_neg (by decide), am_wr_eq, if_pos rfl])]; try simp only [Int32.ofInt_add, Int32.ofInt_sub, Int32.ofInt_mul, Int32.ofInt_neg])) ?_
  refine wp_call (md1 := am_m_Model_lies) (As := [.ref 55, .int (iN ((zx) + (1)))]) (rest := []) (kr1 := (78, 76)) rfl (jm_lies _ (by omega) (za := (zx) + (1)) (by omega)) ?_
  rintro _ _ ⟨rfl, rfl⟩
  refine wp_ret (rv := none) rfl ?_
  refine ⟨rfl, zUp (zUp (zh.1 55) 4 (iN (zx + 1))) 5 (iN (zx + 1)), ?_, fun k q1 q2 => (zUp_n _ _ _ q2).trans (zUp_n _ _ _ q1), (zUp_n _ _ _ (by decide)).trans (zUp_s _ _ _), zUp_s _ _ _⟩
  rw [am_wr_row _ 55 4, am_wr_row2, am_row_n _ _ _ (by decide), am_row_n _ _ _ (by decide), am_row_sw _ (by decide)]
/-- what the reference's changed leaves behind -/
def zChg (zh : am_H) (zu : Int) (h' : am_H) : Prop := ∃ fo, am_row (am_row zh 58 (zCq (if zu = 12 then zCq (zh.1 58) (zh.1 58) 0 98 1176 else zh.1 58) (zh.1 56) (98 * (if zu = 12 then 12 else zu + 1) : Int).toNat 0 98)) 55 fo = h' ∧ (∀ k : Nat, k ≠ 4 → k ≠ 5 → fo k = zh.1 55 k) ∧ fo 4 = iN (if zu = 12 then 12 else zu + 1) ∧ fo 5 = iN (if zu = 12 then 12 else zu + 1)
set_option maxRecDepth 20000 in
set_option maxHeartbeats 4000000 in
theorem jm_changed (zd : Nat) (q_d : 1 ≤ zd) {zh : am_H} {zu : Int} (q_u : zh.1 55 4 = iN zu) (q_r : 0 ≤ zu ∧ zu ≤ 12) : am_wp zd am_m_Model_changed 0 [(0, .ref 55)] [] (78, 76) zh (78, 76) (fun rv h' => rv = none ∧ zChg zh zu h') := by
  obtain ⟨zd, rfl⟩ : ∃ y_e, zd = y_e + 1 := ⟨zd - 1, by omega⟩
  refine wp_run (k := 3) (pc1 := 6) (l1 := [(0, .ref 55)]) (st1 := [.int (iN (12)), .int (iN (zu))]) (kr1 := (78, 76)) (h1 := zh) (Eq.trans (b := (some (6, [(0, .ref 55)], [.int (iN (12)), .int (zh.1 55 4)], (78, 76), zh) : Option am_C)) rfl (by simp only [q_u, Int32.ofInt_add, Int32.ofInt_sub, Int32.ofInt_mul, Int32.ofInt_neg])) ?_
  refine wp_ne (a := zu) (b := 12) rfl (by omega) (by omega) (fun b_6 => ?_) (fun b_6 => ?_)
  · refine wp_con (jl_chg49 _ (by omega) q_u (by omega)) (fun rv y_h q => ?_)
    obtain ⟨q1, fo, q2, q3, q4, q5⟩ := q
    refine ⟨q1, fo, ?_, q3, ?_, ?_⟩
    · rw [if_neg b_6, if_neg b_6]; exact q2
    · rw [if_neg b_6]; exact q4
    · rw [if_neg b_6]; exact q5
  · refine wp_run (k := 2) (pc1 := 11) (l1 := [(0, .ref 55), (1, .int (iN (0)))]) (st1 := []) (kr1 := (78, 76)) (h1 := zh) rfl ?_
    refine Eq.mpr (congrArg (fun y_h => am_wp _ _ _ _ _ _ y_h _ _) (show zh = am_row zh 58 (zCq (zh.1 58) (zh.1 58) (0 : Int).toNat (98 : Int).toNat (0 : Int).toNat) from by rw [show (0 : Int).toNat = 0 from rfl, zCq_0, am_row_id])) ?_
    refine jl_mshift (zh := zh) _ (by omega)  ?_ 1177 0 (by omega) (by omega)
    refine wp_run (k := 5) (pc1 := 46) (l1 := [(0, .ref 55), (1, .int (iN (1176)))]) (st1 := [.int (iN ((12) - (1))), .ref 55]) (kr1 := (78, 76)) (h1 := am_row zh 58 (zCq (zh.1 58) (zh.1 58) (0 : Int).toNat (98 : Int).toNat (1176 : Int).toNat)) (Eq.trans (b := (some (46, [(0, .ref 55), (1, .int (iN (1176)))], [.int (((am_row zh 58 (zCq (zh.1 58) (zh.1 58) (0 : Int).toNat (98 : Int).toNat (1176 : Int).toNat)).1 55 4) - (iN (1))), .ref 55], (78, 76), am_row zh 58 (zCq (zh.1 58) (zh.1 58) (0 : Int).toNat (98 : Int).toNat (1176 : Int).toNat)) : Option am_C)) rfl (by simp only [(show (am_row zh 58 (zCq (zh.1 58) (zh.1 58) (0 : Int).toNat (98 : Int).toNat (1176 : Int).toNat)).1 55 4 = iN 12 from (congrFun (am_row_n _ _ _ (by decide)) 4).trans (q_u.trans (congrArg iN (by omega)))), Int32.ofInt_add, Int32.ofInt_sub, Int32.ofInt_mul, Int32.ofInt_neg])) ?_
    refine wp_run (k := 1) (pc1 := 49) (l1 := [(0, .ref 55), (1, .int (iN (1176)))]) (st1 := []) (kr1 := (78, 76)) (h1 := am_wr (am_row zh 58 (zCq (zh.1 58) (zh.1 58) (0 : Int).toNat (98 : Int).toNat (1176 : Int).toNat)) 55 4 (iN ((12) - (1)))) rfl ?_
    refine wp_drop [1] (l := [(0, .ref 55)]) rfl rfl ?_
    refine wp_con (jl_chg49 (zx := 11) _ (by omega) (show (am_wr (am_row zh 58 (zCq (zh.1 58) (zh.1 58) (0 : Int).toNat (98 : Int).toNat (1176 : Int).toNat)) 55 4 (iN ((12) - (1)))).1 55 4 = iN 11 from by rw [am_wr_eq, if_pos rfl]; rfl) (by omega)) (fun rv y_h q => ?_)
    obtain ⟨q1, fo, q2, q3, q4, q5⟩ := q
    have b_7 : zu = 12 := by omega
    refine ⟨q1, fo, ?_, ?_, ?_, ?_⟩
    · rw [if_pos b_7, if_pos b_7, ← q2, am_wr_row, am_row_n _ 55 _ (by decide), am_row_n _ 55 _ (by decide), am_row_s, am_row_n _ 58 _ (show 56 ≠ 58 by decide), am_row_n _ 58 _ (show 55 ≠ 58 by decide), am_row_tw _ (by decide), am_row_tw _ (by decide)]; rfl
    · intro k q6 q7; rw [q3 k q6 q7, am_wr_eq, if_neg q6]; exact congrFun (am_row_n _ _ _ (by decide)) _
    · rw [if_pos b_7]; exact q4
    · rw [if_pos b_7]; exact q5
