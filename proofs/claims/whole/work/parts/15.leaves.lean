/-! LEAVES: LotPlanner's static methods -/
def vmax (w : Int) : Int := if w = 1 ∨ w = 5 then 999 else 99
theorem am_M6_v (w : Int) (h : 0 ≤ w ∧ w < 6) : am_M6 w.toNat = iN (vmax w) := by
  rcases (show w = 0 ∨ w = 1 ∨ w = 2 ∨ w = 3 ∨ w = 4 ∨ w = 5 by omega) with rfl | rfl | rfl | rfl | rfl | rfl <;> decide
theorem vmax_rg (w : Int) : 99 ≤ vmax w ∧ vmax w ≤ 999 := by
  unfold vmax
  split <;> omega
set_option maxRecDepth 20000 in
set_option maxHeartbeats 4000000 in
/-- inside(i, end) -/
theorem jt_inside (zd : Nat) (q_d : 0 ≤ zd) {zk : Nat × Nat} {zh : am_H} {zi ze : Int} (q_i : -2147483648 ≤ zi ∧ zi < 2147483648) (q_e : -2147483648 ≤ ze ∧ ze < 2147483648) : am_wp zd am_m_Lp_inside 0 [(0, .int (iN (zi))), (1, .int (iN (ze)))] [] zk zh zk (fun rv h' => rv = some (.int (iN (bI (0 ≤ zi ∧ zi < ze) inferInstance))) ∧ zh = h') := by
  obtain ⟨zd, rfl⟩ : ∃ y_e, zd = y_e + 0 := ⟨zd - 0, by omega⟩
  refine wp_run (k := 1) (pc1 := 1) (l1 := [(0, .int (iN (zi))), (1, .int (iN (ze)))]) (st1 := [.int (iN (zi))]) (kr1 := zk) (h1 := zh) rfl ?_
  refine wp_lt0 (a := zi) rfl (by omega) (fun b_1 => ?_) (fun b_1 => ?_)
  · refine wp_run (k := 1) (pc1 := 14) (l1 := [(0, .int (iN (zi))), (1, .int (iN (ze)))]) (st1 := [.int (iN (0))]) (kr1 := zk) (h1 := zh) rfl ?_
    refine wp_ret (rv := some (.int (iN (0)))) rfl ?_
    exact ⟨by rw [show bI (0 ≤ zi ∧ zi < ze) inferInstance = 0 from if_neg (by omega)], rfl⟩
  · refine wp_run (k := 2) (pc1 := 6) (l1 := [(0, .int (iN (zi))), (1, .int (iN (ze)))]) (st1 := [.int (iN (ze)), .int (iN (zi))]) (kr1 := zk) (h1 := zh) rfl ?_
    refine wp_ge (a := zi) (b := ze) rfl (by omega) (by omega) (fun b_6 => ?_) (fun b_6 => ?_)
    · refine wp_run (k := 1) (pc1 := 14) (l1 := [(0, .int (iN (zi))), (1, .int (iN (ze)))]) (st1 := [.int (iN (0))]) (kr1 := zk) (h1 := zh) rfl ?_
      refine wp_ret (rv := some (.int (iN (0)))) rfl ?_
      exact ⟨by rw [show bI (0 ≤ zi ∧ zi < ze) inferInstance = 0 from if_neg (by omega)], rfl⟩
    · refine wp_run (k := 2) (pc1 := 14) (l1 := [(0, .int (iN (zi))), (1, .int (iN (ze)))]) (st1 := [.int (iN (1))]) (kr1 := zk) (h1 := zh) rfl ?_
      refine wp_ret (rv := some (.int (iN (1)))) rfl ?_
      exact ⟨by rw [show bI (0 ≤ zi ∧ zi < ze) inferInstance = 1 from if_pos (by omega)], rfl⟩
set_option maxRecDepth 20000 in
set_option maxHeartbeats 4000000 in
/-- at(row, i) -/
theorem jt_at (zd : Nat) (q_d : 0 ≤ zd) {zk : Nat × Nat} {zh : am_H} {zc zn : Nat} {zf : Nat → Int32} {zi : Int} {zv : Int32} (q_a : am_ar zk zh zc = some (zn, zf)) (q_l : am_ln zk zh zc = some (zn : Int)) (q_n : zn < 2147483648) (q_r : -2147483648 ≤ zi ∧ zi < 2147483648) (q_i : 0 ≤ zi ∧ zi < zn) (q_v : zf zi.toNat = zv) : am_wp zd am_m_Lp_at 0 [(0, .ref zc), (1, .int (iN (zi)))] [] zk zh zk (fun rv h' => rv = some (.int zv) ∧ zh = h') := by
  obtain ⟨zd, rfl⟩ : ∃ y_e, zd = y_e + 0 := ⟨zd - 0, by omega⟩
  refine wp_run (k := 1) (pc1 := 1) (l1 := [(0, .ref zc), (1, .int (iN (zi)))]) (st1 := [.int (iN (zi))]) (kr1 := zk) (h1 := zh) rfl ?_
  refine wp_lt0 (a := zi) rfl (by omega) (fun b_1 => ?_) (fun b_1 => ?_)
  · exact absurd b_1 (by omega)
  · refine wp_run (k := 2) (pc1 := 6) (l1 := [(0, .ref zc), (1, .int (iN (zi)))]) (st1 := [.ref zc, .int (iN (zi))]) (kr1 := zk) (h1 := zh) rfl ?_
    refine wp_alen (v := zn) rfl q_l ?_
    refine wp_ge (a := zi) (b := zn) rfl (by omega) (by omega) (fun b_7 => ?_) (fun b_7 => ?_)
    · exact absurd b_7 (by omega)
    · refine wp_run (k := 2) (pc1 := 12) (l1 := [(0, .ref zc), (1, .int (iN (zi)))]) (st1 := [.int (iN (zi)), .ref zc]) (kr1 := zk) (h1 := zh) rfl ?_
      refine wp_iald  (z := zi) (j := zi.toNat) (n := zn) (v := zv) rfl q_a (by omega) (by omega) q_n (q_v) ?_
      refine wp_run (k := 1) (pc1 := 17) (l1 := [(0, .ref zc), (1, .int (iN (zi)))]) (st1 := [.int (zv)]) (kr1 := zk) (h1 := zh) rfl ?_
      refine wp_ret (rv := some (.int (zv))) rfl ?_
      exact ⟨rfl, rfl⟩
set_option maxRecDepth 20000 in
set_option maxHeartbeats 4000000 in
/-- at(row, i) -/
theorem jt_at0 (zd : Nat) (q_d : 0 ≤ zd) {zk : Nat × Nat} {zh : am_H} {zc zn : Nat} {zf : Nat → Int32} {zi : Int} {zv : Int32} (q_a : am_ar zk zh zc = some (zn, zf)) (q_l : am_ln zk zh zc = some (zn : Int)) (q_n : zn < 2147483648) (q_r : -2147483648 ≤ zi ∧ zi < 2147483648) (q_i : ¬ (0 ≤ zi ∧ zi < zn)) (q_v : iN 0 = zv) : am_wp zd am_m_Lp_at 0 [(0, .ref zc), (1, .int (iN (zi)))] [] zk zh zk (fun rv h' => rv = some (.int zv) ∧ zh = h') := by
  obtain ⟨zd, rfl⟩ : ∃ y_e, zd = y_e + 0 := ⟨zd - 0, by omega⟩
  refine wp_run (k := 1) (pc1 := 1) (l1 := [(0, .ref zc), (1, .int (iN (zi)))]) (st1 := [.int (iN (zi))]) (kr1 := zk) (h1 := zh) rfl ?_
  refine wp_lt0 (a := zi) rfl (by omega) (fun b_1 => ?_) (fun b_1 => ?_)
  · refine wp_run (k := 1) (pc1 := 17) (l1 := [(0, .ref zc), (1, .int (iN (zi)))]) (st1 := [.int (iN (0))]) (kr1 := zk) (h1 := zh) rfl ?_
    refine wp_ret (rv := some (.int (iN (0)))) rfl ?_
    exact ⟨by rw [q_v], rfl⟩
  · refine wp_run (k := 2) (pc1 := 6) (l1 := [(0, .ref zc), (1, .int (iN (zi)))]) (st1 := [.ref zc, .int (iN (zi))]) (kr1 := zk) (h1 := zh) rfl ?_
    refine wp_alen (v := zn) rfl q_l ?_
    refine wp_ge (a := zi) (b := zn) rfl (by omega) (by omega) (fun b_7 => ?_) (fun b_7 => ?_)
    · refine wp_run (k := 1) (pc1 := 17) (l1 := [(0, .ref zc), (1, .int (iN (zi)))]) (st1 := [.int (iN (0))]) (kr1 := zk) (h1 := zh) rfl ?_
      refine wp_ret (rv := some (.int (iN (0)))) rfl ?_
      exact ⟨by rw [q_v], rfl⟩
    · exact absurd b_7 (by omega)
set_option maxRecDepth 20000 in
set_option maxHeartbeats 4000000 in
/-- lay(row, i, v) -/
theorem jt_lay (zd : Nat) (q_d : 0 ≤ zd) {zk : Nat × Nat} {zh : am_H} {zc zn : Nat} {zi : Int} {zv : Int32} (q_1 : zc < 1000) (q_2 : zc < zk.1) (q_3 : (am_shp zc).1 = 1) (q_4 : (am_shp zc).2 = zn) (q_l : am_ln zk zh zc = some (zn : Int)) (q_n : zn < 2147483648) (q_r : -2147483648 ≤ zi ∧ zi < 2147483648) (q_i : 0 ≤ zi ∧ zi < zn) : am_wp zd am_m_Lp_lay 0 [(0, .ref zc), (1, .int (iN (zi))), (2, .int (zv))] [] zk zh zk (fun rv h' => rv = none ∧ am_wr zh zc zi.toNat zv = h') := by
  obtain ⟨zd, rfl⟩ : ∃ y_e, zd = y_e + 0 := ⟨zd - 0, by omega⟩
  refine wp_run (k := 1) (pc1 := 1) (l1 := [(0, .ref zc), (1, .int (iN (zi))), (2, .int (zv))]) (st1 := [.int (iN (zi))]) (kr1 := zk) (h1 := zh) rfl ?_
  refine wp_lt0 (a := zi) rfl (by omega) (fun b_1 => ?_) (fun b_1 => ?_)
  · exact absurd b_1 (by omega)
  · refine wp_run (k := 2) (pc1 := 6) (l1 := [(0, .ref zc), (1, .int (iN (zi))), (2, .int (zv))]) (st1 := [.ref zc, .int (iN (zi))]) (kr1 := zk) (h1 := zh) rfl ?_
    refine wp_alen (v := zn) rfl q_l ?_
    refine wp_ge (a := zi) (b := zn) rfl (by omega) (by omega) (fun b_7 => ?_) (fun b_7 => ?_)
    · exact absurd b_7 (by omega)
    · refine wp_run (k := 3) (pc1 := 13) (l1 := [(0, .ref zc), (1, .int (iN (zi))), (2, .int (zv))]) (st1 := [.int (zv), .int (iN (zi)), .ref zc]) (kr1 := zk) (h1 := zh) rfl ?_
      refine wp_iast (z := zi) (j := zi.toNat) (n := zn) rfl q_1 q_2 q_3 q_4 (by omega) (by omega) q_n ?_
      refine wp_ret (rv := none) rfl ?_
      exact ⟨rfl, rfl⟩
set_option maxRecDepth 20000 in
set_option maxHeartbeats 4000000 in
/-- lay(row, i, v) -/
theorem jt_lay0 (zd : Nat) (q_d : 0 ≤ zd) {zk : Nat × Nat} {zh : am_H} {zc zn : Nat} {zi : Int} {zv : Int32} (q_1 : zc < 1000) (q_2 : zc < zk.1) (q_3 : (am_shp zc).1 = 1) (q_4 : (am_shp zc).2 = zn) (q_l : am_ln zk zh zc = some (zn : Int)) (q_n : zn < 2147483648) (q_r : -2147483648 ≤ zi ∧ zi < 2147483648) (q_i : ¬ (0 ≤ zi ∧ zi < zn)) : am_wp zd am_m_Lp_lay 0 [(0, .ref zc), (1, .int (iN (zi))), (2, .int (zv))] [] zk zh zk (fun rv h' => rv = none ∧ zh = h') := by
  obtain ⟨zd, rfl⟩ : ∃ y_e, zd = y_e + 0 := ⟨zd - 0, by omega⟩
  refine wp_run (k := 1) (pc1 := 1) (l1 := [(0, .ref zc), (1, .int (iN (zi))), (2, .int (zv))]) (st1 := [.int (iN (zi))]) (kr1 := zk) (h1 := zh) rfl ?_
  refine wp_lt0 (a := zi) rfl (by omega) (fun b_1 => ?_) (fun b_1 => ?_)
  · refine wp_ret (rv := none) rfl ?_
    exact ⟨rfl, rfl⟩
  · refine wp_run (k := 2) (pc1 := 6) (l1 := [(0, .ref zc), (1, .int (iN (zi))), (2, .int (zv))]) (st1 := [.ref zc, .int (iN (zi))]) (kr1 := zk) (h1 := zh) rfl ?_
    refine wp_alen (v := zn) rfl q_l ?_
    refine wp_ge (a := zi) (b := zn) rfl (by omega) (by omega) (fun b_7 => ?_) (fun b_7 => ?_)
    · refine wp_ret (rv := none) rfl ?_
      exact ⟨rfl, rfl⟩
    · exact absurd b_7 (by omega)
set_option maxRecDepth 20000 in
set_option maxHeartbeats 4000000 in
/-- mayBe(which, v) -/
theorem jt_mayBe (zd : Nat) (q_d : 1 ≤ zd) {zk : Nat × Nat} {zh : am_H} {zw zv : Int} (q_w : -2147483648 ≤ zw ∧ zw < 2147483648) (q_v : -2147483648 ≤ zv ∧ zv < 2147483648) : am_wp zd am_m_Lp_mayBe 0 [(0, .int (iN (zw))), (1, .int (iN (zv)))] [] zk zh zk (fun rv h' => rv = some (.int (iN (bI (0 ≤ zw ∧ zw < 6 ∧ 0 ≤ zv ∧ zv ≤ vmax zw) inferInstance))) ∧ zh = h') := by
  obtain ⟨zd, rfl⟩ : ∃ y_e, zd = y_e + 1 := ⟨zd - 1, by omega⟩
  refine wp_run (k := 2) (pc1 := 3) (l1 := [(0, .int (iN (zw))), (1, .int (iN (zv)))]) (st1 := [.int (iN (6)), .int (iN (zw))]) (kr1 := zk) (h1 := zh) rfl ?_
  refine wp_call (md1 := am_m_Lp_inside) (As := [.int (iN (zw)), .int (iN (6))]) (rest := []) (kr1 := zk) rfl (jt_inside _ (by omega) (zi := zw) (ze := 6) (by omega) (by omega)) ?_
  rintro _ _ ⟨rfl, rfl⟩
  refine wp_eqb rfl (fun b_6 => ?_) (fun b_6 => ?_)
  · refine wp_run (k := 1) (pc1 := 29) (l1 := [(0, .int (iN (zw))), (1, .int (iN (zv)))]) (st1 := [.int (iN (0))]) (kr1 := zk) (h1 := zh) rfl ?_
    refine wp_ret (rv := some (.int (iN (0)))) rfl ?_
    exact ⟨by rw [show bI (0 ≤ zw ∧ zw < 6 ∧ 0 ≤ zv ∧ zv ≤ vmax zw) inferInstance = 0 from if_neg (by omega)], rfl⟩
  · refine wp_run (k := 1) (pc1 := 10) (l1 := [(0, .int (iN (zw))), (1, .int (iN (zv)))]) (st1 := [.int (iN (zv))]) (kr1 := zk) (h1 := zh) rfl ?_
    refine wp_lt0 (a := zv) rfl (by omega) (fun b_10 => ?_) (fun b_10 => ?_)
    · refine wp_run (k := 1) (pc1 := 29) (l1 := [(0, .int (iN (zw))), (1, .int (iN (zv)))]) (st1 := [.int (iN (0))]) (kr1 := zk) (h1 := zh) rfl ?_
      refine wp_ret (rv := some (.int (iN (0)))) rfl ?_
      exact ⟨by rw [show bI (0 ≤ zw ∧ zw < 6 ∧ 0 ≤ zv ∧ zv ≤ vmax zw) inferInstance = 0 from if_neg (by omega)], rfl⟩
    · refine wp_run (k := 3) (pc1 := 18) (l1 := [(0, .int (iN (zw))), (1, .int (iN (zv)))]) (st1 := [.int (iN (zw)), .ref 1041, .int (iN (zv))]) (kr1 := zk) (h1 := zh) rfl ?_
      refine wp_call (md1 := am_m_Lp_at) (As := [.ref 1041, .int (iN (zw))]) (rest := [.int (iN (zv))]) (kr1 := zk) rfl (jt_at _ (by omega) (zn := 6) (zi := zw) (zv := iN (vmax zw)) rfl rfl (by decide) (by omega) (by omega) (am_M6_v zw (by omega))) ?_
      rintro _ _ ⟨rfl, rfl⟩
      have q_vm := vmax_rg zw
      refine wp_gt (a := zv) (b := vmax zw) rfl (by omega) (by omega) (fun b_21 => ?_) (fun b_21 => ?_)
      · refine wp_run (k := 1) (pc1 := 29) (l1 := [(0, .int (iN (zw))), (1, .int (iN (zv)))]) (st1 := [.int (iN (0))]) (kr1 := zk) (h1 := zh) rfl ?_
        refine wp_ret (rv := some (.int (iN (0)))) rfl ?_
        exact ⟨by rw [show bI (0 ≤ zw ∧ zw < 6 ∧ 0 ≤ zv ∧ zv ≤ vmax zw) inferInstance = 0 from if_neg (by omega)], rfl⟩
      · refine wp_run (k := 2) (pc1 := 29) (l1 := [(0, .int (iN (zw))), (1, .int (iN (zv)))]) (st1 := [.int (iN (1))]) (kr1 := zk) (h1 := zh) rfl ?_
        refine wp_ret (rv := some (.int (iN (1)))) rfl ?_
        exact ⟨by rw [show bI (0 ≤ zw ∧ zw < 6 ∧ 0 ≤ zv ∧ zv ≤ vmax zw) inferInstance = 1 from if_pos (by omega)], rfl⟩
