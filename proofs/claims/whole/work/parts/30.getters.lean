/-! THE CLASS: what is only read -/
set_option maxRecDepth 20000 in
set_option maxHeartbeats 4000000 in
theorem jg_Plan_cost_3 (zd : Nat) (q_d : 0 ≤ zd) {zh : am_H} {zv : Int} (q_v : zh.1 3 12 = iN zv) : am_wp zd am_m_Plan_cost 0 [(0, .ref 3)] [] (78, 76) zh (78, 76) (fun rv h' => rv = some (.int (iN zv)) ∧ zh = h') := by
  obtain ⟨zd, rfl⟩ : ∃ y_e, zd = y_e + 0 := ⟨zd - 0, by omega⟩
  refine wp_run (k := 2) (pc1 := 4) (l1 := [(0, .ref 3)]) (st1 := [.int (iN (zv))]) (kr1 := (78, 76)) (h1 := zh) (Eq.trans (b := (some (4, [(0, .ref 3)], [.int (zh.1 3 12)], (78, 76), zh) : Option am_C)) rfl (by simp only [q_v, Int32.ofInt_add, Int32.ofInt_sub, Int32.ofInt_mul, Int32.ofInt_neg])) ?_
  refine wp_ret (rv := some (.int (iN (zv)))) rfl ?_
  exact ⟨rfl, rfl⟩
set_option maxRecDepth 20000 in
set_option maxHeartbeats 4000000 in
theorem jg_Plan_howMany_3 (zd : Nat) (q_d : 0 ≤ zd) {zh : am_H} {zv : Int} (q_v : zh.1 3 13 = iN zv) : am_wp zd am_m_Plan_howMany 0 [(0, .ref 3)] [] (78, 76) zh (78, 76) (fun rv h' => rv = some (.int (iN zv)) ∧ zh = h') := by
  obtain ⟨zd, rfl⟩ : ∃ y_e, zd = y_e + 0 := ⟨zd - 0, by omega⟩
  refine wp_run (k := 2) (pc1 := 4) (l1 := [(0, .ref 3)]) (st1 := [.int (iN (zv))]) (kr1 := (78, 76)) (h1 := zh) (Eq.trans (b := (some (4, [(0, .ref 3)], [.int (zh.1 3 13)], (78, 76), zh) : Option am_C)) rfl (by simp only [q_v, Int32.ofInt_add, Int32.ofInt_sub, Int32.ofInt_mul, Int32.ofInt_neg])) ?_
  refine wp_ret (rv := some (.int (iN (zv)))) rfl ?_
  exact ⟨rfl, rfl⟩
set_option maxRecDepth 20000 in
set_option maxHeartbeats 4000000 in
theorem jg_Plan_lots_3 (zd : Nat) (q_d : 0 ≤ zd) {zh : am_H} {zv : Int} (q_v : zh.1 3 11 = iN zv) : am_wp zd am_m_Plan_lots 0 [(0, .ref 3)] [] (78, 76) zh (78, 76) (fun rv h' => rv = some (.int (iN zv)) ∧ zh = h') := by
  obtain ⟨zd, rfl⟩ : ∃ y_e, zd = y_e + 0 := ⟨zd - 0, by omega⟩
  refine wp_run (k := 2) (pc1 := 4) (l1 := [(0, .ref 3)]) (st1 := [.int (iN (zv))]) (kr1 := (78, 76)) (h1 := zh) (Eq.trans (b := (some (4, [(0, .ref 3)], [.int (zh.1 3 11)], (78, 76), zh) : Option am_C)) rfl (by simp only [q_v, Int32.ofInt_add, Int32.ofInt_sub, Int32.ofInt_mul, Int32.ofInt_neg])) ?_
  refine wp_ret (rv := some (.int (iN (zv)))) rfl ?_
  exact ⟨rfl, rfl⟩
set_option maxRecDepth 20000 in
set_option maxHeartbeats 4000000 in
theorem jg_Plan_made_3 (zd : Nat) (q_d : 1 ≤ zd) {zh : am_H} {zp zv : Int} (q_p : 0 ≤ zp ∧ zp < 16) (q_v : zh.1 16 zp.toNat = iN zv) : am_wp zd am_m_Plan_made 0 [(0, .ref 3), (1, .int (iN (zp)))] [] (78, 76) zh (78, 76) (fun rv h' => rv = some (.int (iN zv)) ∧ zh = h') := by
  obtain ⟨zd, rfl⟩ : ∃ y_e, zd = y_e + 1 := ⟨zd - 1, by omega⟩
  refine wp_run (k := 3) (pc1 := 5) (l1 := [(0, .ref 3), (1, .int (iN (zp)))]) (st1 := [.int (iN (zp)), .ref 16]) (kr1 := (78, 76)) (h1 := zh) rfl ?_
  refine wp_call (md1 := am_m_Lp_at) (As := [.ref 16, .int (iN (zp))]) (rest := []) (kr1 := (78, 76)) rfl (jt_at _ (by omega) (zn := 16) (zi := zp) (zv := iN zv) rfl rfl (by decide) (by omega) (by omega) (q_v)) ?_
  rintro _ _ ⟨rfl, rfl⟩
  refine wp_ret (rv := some (.int (iN zv))) rfl ?_
  exact ⟨rfl, rfl⟩
set_option maxRecDepth 20000 in
set_option maxHeartbeats 4000000 in
theorem jg_Plan_stock_3 (zd : Nat) (q_d : 1 ≤ zd) {zh : am_H} {zp zv : Int} (q_p : 0 ≤ zp ∧ zp < 16) (q_v : zh.1 17 zp.toNat = iN zv) : am_wp zd am_m_Plan_stock 0 [(0, .ref 3), (1, .int (iN (zp)))] [] (78, 76) zh (78, 76) (fun rv h' => rv = some (.int (iN zv)) ∧ zh = h') := by
  obtain ⟨zd, rfl⟩ : ∃ y_e, zd = y_e + 1 := ⟨zd - 1, by omega⟩
  refine wp_run (k := 3) (pc1 := 5) (l1 := [(0, .ref 3), (1, .int (iN (zp)))]) (st1 := [.int (iN (zp)), .ref 17]) (kr1 := (78, 76)) (h1 := zh) rfl ?_
  refine wp_call (md1 := am_m_Lp_at) (As := [.ref 17, .int (iN (zp))]) (rest := []) (kr1 := (78, 76)) rfl (jt_at _ (by omega) (zn := 16) (zi := zp) (zv := iN zv) rfl rfl (by decide) (by omega) (by omega) (q_v)) ?_
  rintro _ _ ⟨rfl, rfl⟩
  refine wp_ret (rv := some (.int (iN zv))) rfl ?_
  exact ⟨rfl, rfl⟩
set_option maxRecDepth 20000 in
set_option maxHeartbeats 4000000 in
theorem jg_Plan_forwardCost_3 (zd : Nat) (q_d : 1 ≤ zd) {zh : am_H} {zp zv : Int} (q_p : 0 ≤ zp ∧ zp < 17) (q_v : zh.1 12 zp.toNat = iN zv) : am_wp zd am_m_Plan_forwardCost 0 [(0, .ref 3), (1, .int (iN (zp)))] [] (78, 76) zh (78, 76) (fun rv h' => rv = some (.int (iN zv)) ∧ zh = h') := by
  obtain ⟨zd, rfl⟩ : ∃ y_e, zd = y_e + 1 := ⟨zd - 1, by omega⟩
  refine wp_run (k := 3) (pc1 := 5) (l1 := [(0, .ref 3), (1, .int (iN (zp)))]) (st1 := [.int (iN (zp)), .ref 12]) (kr1 := (78, 76)) (h1 := zh) rfl ?_
  refine wp_call (md1 := am_m_Lp_at) (As := [.ref 12, .int (iN (zp))]) (rest := []) (kr1 := (78, 76)) rfl (jt_at _ (by omega) (zn := 17) (zi := zp) (zv := iN zv) rfl rfl (by decide) (by omega) (by omega) (q_v)) ?_
  rintro _ _ ⟨rfl, rfl⟩
  refine wp_ret (rv := some (.int (iN zv))) rfl ?_
  exact ⟨rfl, rfl⟩
set_option maxRecDepth 20000 in
set_option maxHeartbeats 4000000 in
theorem jg_Plan_lastBegin_3 (zd : Nat) (q_d : 1 ≤ zd) {zh : am_H} {zp zv : Int} (q_p : 0 ≤ zp ∧ zp < 17) (q_v : zh.1 13 zp.toNat = iN zv) : am_wp zd am_m_Plan_lastBegin 0 [(0, .ref 3), (1, .int (iN (zp)))] [] (78, 76) zh (78, 76) (fun rv h' => rv = some (.int (iN zv)) ∧ zh = h') := by
  obtain ⟨zd, rfl⟩ : ∃ y_e, zd = y_e + 1 := ⟨zd - 1, by omega⟩
  refine wp_run (k := 3) (pc1 := 5) (l1 := [(0, .ref 3), (1, .int (iN (zp)))]) (st1 := [.int (iN (zp)), .ref 13]) (kr1 := (78, 76)) (h1 := zh) rfl ?_
  refine wp_call (md1 := am_m_Lp_at) (As := [.ref 13, .int (iN (zp))]) (rest := []) (kr1 := (78, 76)) rfl (jt_at _ (by omega) (zn := 17) (zi := zp) (zv := iN zv) rfl rfl (by decide) (by omega) (by omega) (q_v)) ?_
  rintro _ _ ⟨rfl, rfl⟩
  refine wp_ret (rv := some (.int (iN zv))) rfl ?_
  exact ⟨rfl, rfl⟩
set_option maxRecDepth 20000 in
set_option maxHeartbeats 4000000 in
theorem jg_Plan_cost_36 (zd : Nat) (q_d : 0 ≤ zd) {zh : am_H} {zv : Int} (q_v : zh.1 36 12 = iN zv) : am_wp zd am_m_Plan_cost 0 [(0, .ref 36)] [] (78, 76) zh (78, 76) (fun rv h' => rv = some (.int (iN zv)) ∧ zh = h') := by
  obtain ⟨zd, rfl⟩ : ∃ y_e, zd = y_e + 0 := ⟨zd - 0, by omega⟩
  refine wp_run (k := 2) (pc1 := 4) (l1 := [(0, .ref 36)]) (st1 := [.int (iN (zv))]) (kr1 := (78, 76)) (h1 := zh) (Eq.trans (b := (some (4, [(0, .ref 36)], [.int (zh.1 36 12)], (78, 76), zh) : Option am_C)) rfl (by simp only [q_v, Int32.ofInt_add, Int32.ofInt_sub, Int32.ofInt_mul, Int32.ofInt_neg])) ?_
  refine wp_ret (rv := some (.int (iN (zv)))) rfl ?_
  exact ⟨rfl, rfl⟩
set_option maxRecDepth 20000 in
set_option maxHeartbeats 4000000 in
theorem jg_Plan_howMany_36 (zd : Nat) (q_d : 0 ≤ zd) {zh : am_H} {zv : Int} (q_v : zh.1 36 13 = iN zv) : am_wp zd am_m_Plan_howMany 0 [(0, .ref 36)] [] (78, 76) zh (78, 76) (fun rv h' => rv = some (.int (iN zv)) ∧ zh = h') := by
  obtain ⟨zd, rfl⟩ : ∃ y_e, zd = y_e + 0 := ⟨zd - 0, by omega⟩
  refine wp_run (k := 2) (pc1 := 4) (l1 := [(0, .ref 36)]) (st1 := [.int (iN (zv))]) (kr1 := (78, 76)) (h1 := zh) (Eq.trans (b := (some (4, [(0, .ref 36)], [.int (zh.1 36 13)], (78, 76), zh) : Option am_C)) rfl (by simp only [q_v, Int32.ofInt_add, Int32.ofInt_sub, Int32.ofInt_mul, Int32.ofInt_neg])) ?_
  refine wp_ret (rv := some (.int (iN (zv)))) rfl ?_
  exact ⟨rfl, rfl⟩
set_option maxRecDepth 20000 in
set_option maxHeartbeats 4000000 in
theorem jg_Plan_lots_36 (zd : Nat) (q_d : 0 ≤ zd) {zh : am_H} {zv : Int} (q_v : zh.1 36 11 = iN zv) : am_wp zd am_m_Plan_lots 0 [(0, .ref 36)] [] (78, 76) zh (78, 76) (fun rv h' => rv = some (.int (iN zv)) ∧ zh = h') := by
  obtain ⟨zd, rfl⟩ : ∃ y_e, zd = y_e + 0 := ⟨zd - 0, by omega⟩
  refine wp_run (k := 2) (pc1 := 4) (l1 := [(0, .ref 36)]) (st1 := [.int (iN (zv))]) (kr1 := (78, 76)) (h1 := zh) (Eq.trans (b := (some (4, [(0, .ref 36)], [.int (zh.1 36 11)], (78, 76), zh) : Option am_C)) rfl (by simp only [q_v, Int32.ofInt_add, Int32.ofInt_sub, Int32.ofInt_mul, Int32.ofInt_neg])) ?_
  refine wp_ret (rv := some (.int (iN (zv)))) rfl ?_
  exact ⟨rfl, rfl⟩
set_option maxRecDepth 20000 in
set_option maxHeartbeats 4000000 in
theorem jg_Plan_made_36 (zd : Nat) (q_d : 1 ≤ zd) {zh : am_H} {zp zv : Int} (q_p : 0 ≤ zp ∧ zp < 16) (q_v : zh.1 49 zp.toNat = iN zv) : am_wp zd am_m_Plan_made 0 [(0, .ref 36), (1, .int (iN (zp)))] [] (78, 76) zh (78, 76) (fun rv h' => rv = some (.int (iN zv)) ∧ zh = h') := by
  obtain ⟨zd, rfl⟩ : ∃ y_e, zd = y_e + 1 := ⟨zd - 1, by omega⟩
  refine wp_run (k := 3) (pc1 := 5) (l1 := [(0, .ref 36), (1, .int (iN (zp)))]) (st1 := [.int (iN (zp)), .ref 49]) (kr1 := (78, 76)) (h1 := zh) rfl ?_
  refine wp_call (md1 := am_m_Lp_at) (As := [.ref 49, .int (iN (zp))]) (rest := []) (kr1 := (78, 76)) rfl (jt_at _ (by omega) (zn := 16) (zi := zp) (zv := iN zv) rfl rfl (by decide) (by omega) (by omega) (q_v)) ?_
  rintro _ _ ⟨rfl, rfl⟩
  refine wp_ret (rv := some (.int (iN zv))) rfl ?_
  exact ⟨rfl, rfl⟩
set_option maxRecDepth 20000 in
set_option maxHeartbeats 4000000 in
theorem jg_Plan_stock_36 (zd : Nat) (q_d : 1 ≤ zd) {zh : am_H} {zp zv : Int} (q_p : 0 ≤ zp ∧ zp < 16) (q_v : zh.1 50 zp.toNat = iN zv) : am_wp zd am_m_Plan_stock 0 [(0, .ref 36), (1, .int (iN (zp)))] [] (78, 76) zh (78, 76) (fun rv h' => rv = some (.int (iN zv)) ∧ zh = h') := by
  obtain ⟨zd, rfl⟩ : ∃ y_e, zd = y_e + 1 := ⟨zd - 1, by omega⟩
  refine wp_run (k := 3) (pc1 := 5) (l1 := [(0, .ref 36), (1, .int (iN (zp)))]) (st1 := [.int (iN (zp)), .ref 50]) (kr1 := (78, 76)) (h1 := zh) rfl ?_
  refine wp_call (md1 := am_m_Lp_at) (As := [.ref 50, .int (iN (zp))]) (rest := []) (kr1 := (78, 76)) rfl (jt_at _ (by omega) (zn := 16) (zi := zp) (zv := iN zv) rfl rfl (by decide) (by omega) (by omega) (q_v)) ?_
  rintro _ _ ⟨rfl, rfl⟩
  refine wp_ret (rv := some (.int (iN zv))) rfl ?_
  exact ⟨rfl, rfl⟩
set_option maxRecDepth 20000 in
set_option maxHeartbeats 4000000 in
theorem jg_Plan_forwardCost_36 (zd : Nat) (q_d : 1 ≤ zd) {zh : am_H} {zp zv : Int} (q_p : 0 ≤ zp ∧ zp < 17) (q_v : zh.1 45 zp.toNat = iN zv) : am_wp zd am_m_Plan_forwardCost 0 [(0, .ref 36), (1, .int (iN (zp)))] [] (78, 76) zh (78, 76) (fun rv h' => rv = some (.int (iN zv)) ∧ zh = h') := by
  obtain ⟨zd, rfl⟩ : ∃ y_e, zd = y_e + 1 := ⟨zd - 1, by omega⟩
  refine wp_run (k := 3) (pc1 := 5) (l1 := [(0, .ref 36), (1, .int (iN (zp)))]) (st1 := [.int (iN (zp)), .ref 45]) (kr1 := (78, 76)) (h1 := zh) rfl ?_
  refine wp_call (md1 := am_m_Lp_at) (As := [.ref 45, .int (iN (zp))]) (rest := []) (kr1 := (78, 76)) rfl (jt_at _ (by omega) (zn := 17) (zi := zp) (zv := iN zv) rfl rfl (by decide) (by omega) (by omega) (q_v)) ?_
  rintro _ _ ⟨rfl, rfl⟩
  refine wp_ret (rv := some (.int (iN zv))) rfl ?_
  exact ⟨rfl, rfl⟩
set_option maxRecDepth 20000 in
set_option maxHeartbeats 4000000 in
theorem jg_Plan_lastBegin_36 (zd : Nat) (q_d : 1 ≤ zd) {zh : am_H} {zp zv : Int} (q_p : 0 ≤ zp ∧ zp < 17) (q_v : zh.1 46 zp.toNat = iN zv) : am_wp zd am_m_Plan_lastBegin 0 [(0, .ref 36), (1, .int (iN (zp)))] [] (78, 76) zh (78, 76) (fun rv h' => rv = some (.int (iN zv)) ∧ zh = h') := by
  obtain ⟨zd, rfl⟩ : ∃ y_e, zd = y_e + 1 := ⟨zd - 1, by omega⟩
  refine wp_run (k := 3) (pc1 := 5) (l1 := [(0, .ref 36), (1, .int (iN (zp)))]) (st1 := [.int (iN (zp)), .ref 46]) (kr1 := (78, 76)) (h1 := zh) rfl ?_
  refine wp_call (md1 := am_m_Lp_at) (As := [.ref 46, .int (iN (zp))]) (rest := []) (kr1 := (78, 76)) rfl (jt_at _ (by omega) (zn := 17) (zi := zp) (zv := iN zv) rfl rfl (by decide) (by omega) (by omega) (q_v)) ?_
  rintro _ _ ⟨rfl, rfl⟩
  refine wp_ret (rv := some (.int (iN zv))) rfl ?_
  exact ⟨rfl, rfl⟩
set_option maxRecDepth 20000 in
set_option maxHeartbeats 4000000 in
theorem jg_ByRule_cost_22 (zd : Nat) (q_d : 0 ≤ zd) {zh : am_H} {zv : Int} (q_v : zh.1 22 0 = iN zv) : am_wp zd am_m_ByRule_cost 0 [(0, .ref 22)] [] (78, 76) zh (78, 76) (fun rv h' => rv = some (.int (iN zv)) ∧ zh = h') := by
  obtain ⟨zd, rfl⟩ : ∃ y_e, zd = y_e + 0 := ⟨zd - 0, by omega⟩
  refine wp_run (k := 2) (pc1 := 4) (l1 := [(0, .ref 22)]) (st1 := [.int (iN (zv))]) (kr1 := (78, 76)) (h1 := zh) (Eq.trans (b := (some (4, [(0, .ref 22)], [.int (zh.1 22 0)], (78, 76), zh) : Option am_C)) rfl (by simp only [q_v, Int32.ofInt_add, Int32.ofInt_sub, Int32.ofInt_mul, Int32.ofInt_neg])) ?_
  refine wp_ret (rv := some (.int (iN (zv)))) rfl ?_
  exact ⟨rfl, rfl⟩
set_option maxRecDepth 20000 in
set_option maxHeartbeats 4000000 in
theorem jg_ByRule_lots_22 (zd : Nat) (q_d : 0 ≤ zd) {zh : am_H} {zv : Int} (q_v : zh.1 22 1 = iN zv) : am_wp zd am_m_ByRule_lots 0 [(0, .ref 22)] [] (78, 76) zh (78, 76) (fun rv h' => rv = some (.int (iN zv)) ∧ zh = h') := by
  obtain ⟨zd, rfl⟩ : ∃ y_e, zd = y_e + 0 := ⟨zd - 0, by omega⟩
  refine wp_run (k := 2) (pc1 := 4) (l1 := [(0, .ref 22)]) (st1 := [.int (iN (zv))]) (kr1 := (78, 76)) (h1 := zh) (Eq.trans (b := (some (4, [(0, .ref 22)], [.int (zh.1 22 1)], (78, 76), zh) : Option am_C)) rfl (by simp only [q_v, Int32.ofInt_add, Int32.ofInt_sub, Int32.ofInt_mul, Int32.ofInt_neg])) ?_
  refine wp_ret (rv := some (.int (iN (zv)))) rfl ?_
  exact ⟨rfl, rfl⟩
set_option maxRecDepth 20000 in
set_option maxHeartbeats 4000000 in
theorem jg_ByRule_begins_22 (zd : Nat) (q_d : 0 ≤ zd) {zh : am_H} {zv : Int} (q_v : zh.1 22 2 = iN zv) : am_wp zd am_m_ByRule_begins 0 [(0, .ref 22)] [] (78, 76) zh (78, 76) (fun rv h' => rv = some (.int (iN zv)) ∧ zh = h') := by
  obtain ⟨zd, rfl⟩ : ∃ y_e, zd = y_e + 0 := ⟨zd - 0, by omega⟩
  refine wp_run (k := 2) (pc1 := 4) (l1 := [(0, .ref 22)]) (st1 := [.int (iN (zv))]) (kr1 := (78, 76)) (h1 := zh) (Eq.trans (b := (some (4, [(0, .ref 22)], [.int (zh.1 22 2)], (78, 76), zh) : Option am_C)) rfl (by simp only [q_v, Int32.ofInt_add, Int32.ofInt_sub, Int32.ofInt_mul, Int32.ofInt_neg])) ?_
  refine wp_ret (rv := some (.int (iN (zv)))) rfl ?_
  exact ⟨rfl, rfl⟩
set_option maxRecDepth 20000 in
set_option maxHeartbeats 4000000 in
theorem jg_Bounded_state_18 (zd : Nat) (q_d : 0 ≤ zd) {zh : am_H} {zv : Int} (q_v : zh.1 18 5 = iN zv) : am_wp zd am_m_Bounded_state 0 [(0, .ref 18)] [] (78, 76) zh (78, 76) (fun rv h' => rv = some (.int (iN zv)) ∧ zh = h') := by
  obtain ⟨zd, rfl⟩ : ∃ y_e, zd = y_e + 0 := ⟨zd - 0, by omega⟩
  refine wp_run (k := 2) (pc1 := 4) (l1 := [(0, .ref 18)]) (st1 := [.int (iN (zv))]) (kr1 := (78, 76)) (h1 := zh) (Eq.trans (b := (some (4, [(0, .ref 18)], [.int (zh.1 18 5)], (78, 76), zh) : Option am_C)) rfl (by simp only [q_v, Int32.ofInt_add, Int32.ofInt_sub, Int32.ofInt_mul, Int32.ofInt_neg])) ?_
  refine wp_ret (rv := some (.int (iN (zv)))) rfl ?_
  exact ⟨rfl, rfl⟩
set_option maxRecDepth 20000 in
set_option maxHeartbeats 4000000 in
theorem jg_Bounded_cost_18 (zd : Nat) (q_d : 1 ≤ zd) {zh : am_H} {zv : Int} (q_v : zh.1 19 0 = iN zv) : am_wp zd am_m_Bounded_cost 0 [(0, .ref 18)] [] (78, 76) zh (78, 76) (fun rv h' => rv = some (.int (iN zv)) ∧ zh = h') := by
  obtain ⟨zd, rfl⟩ : ∃ y_e, zd = y_e + 1 := ⟨zd - 1, by omega⟩
  refine wp_run (k := 3) (pc1 := 5) (l1 := [(0, .ref 18)]) (st1 := [.int (iN (0)), .ref 19]) (kr1 := (78, 76)) (h1 := zh) rfl ?_
  refine wp_call (md1 := am_m_Lp_at) (As := [.ref 19, .int (iN (0))]) (rest := []) (kr1 := (78, 76)) rfl (jt_at _ (by omega) (zn := 2057) (zi := 0) (zv := iN zv) rfl rfl (by decide) (by omega) (by omega) (q_v)) ?_
  rintro _ _ ⟨rfl, rfl⟩
  refine wp_ret (rv := some (.int (iN zv))) rfl ?_
  exact ⟨rfl, rfl⟩
set_option maxRecDepth 20000 in
set_option maxHeartbeats 4000000 in
theorem jg_Bounded_made_18 (zd : Nat) (q_d : 1 ≤ zd) {zh : am_H} {zp zv : Int} (q_p : 0 ≤ zp ∧ zp < 16) (q_v : zh.1 21 zp.toNat = iN zv) : am_wp zd am_m_Bounded_made 0 [(0, .ref 18), (1, .int (iN (zp)))] [] (78, 76) zh (78, 76) (fun rv h' => rv = some (.int (iN zv)) ∧ zh = h') := by
  obtain ⟨zd, rfl⟩ : ∃ y_e, zd = y_e + 1 := ⟨zd - 1, by omega⟩
  refine wp_run (k := 3) (pc1 := 5) (l1 := [(0, .ref 18), (1, .int (iN (zp)))]) (st1 := [.int (iN (zp)), .ref 21]) (kr1 := (78, 76)) (h1 := zh) rfl ?_
  refine wp_call (md1 := am_m_Lp_at) (As := [.ref 21, .int (iN (zp))]) (rest := []) (kr1 := (78, 76)) rfl (jt_at _ (by omega) (zn := 16) (zi := zp) (zv := iN zv) rfl rfl (by decide) (by omega) (by omega) (q_v)) ?_
  rintro _ _ ⟨rfl, rfl⟩
  refine wp_ret (rv := some (.int (iN zv))) rfl ?_
  exact ⟨rfl, rfl⟩
set_option maxRecDepth 20000 in
set_option maxHeartbeats 4000000 in
theorem jg_Text_length_27 (zd : Nat) (q_d : 0 ≤ zd) {zh : am_H} {zv : Int} (q_v : zh.1 27 1 = iN zv) : am_wp zd am_m_Text_length 0 [(0, .ref 27)] [] (78, 76) zh (78, 76) (fun rv h' => rv = some (.int (iN zv)) ∧ zh = h') := by
  obtain ⟨zd, rfl⟩ : ∃ y_e, zd = y_e + 0 := ⟨zd - 0, by omega⟩
  refine wp_run (k := 2) (pc1 := 4) (l1 := [(0, .ref 27)]) (st1 := [.int (iN (zv))]) (kr1 := (78, 76)) (h1 := zh) (Eq.trans (b := (some (4, [(0, .ref 27)], [.int (zh.1 27 1)], (78, 76), zh) : Option am_C)) rfl (by simp only [q_v, Int32.ofInt_add, Int32.ofInt_sub, Int32.ofInt_mul, Int32.ofInt_neg])) ?_
  refine wp_ret (rv := some (.int (iN (zv)))) rfl ?_
  exact ⟨rfl, rfl⟩
set_option maxRecDepth 20000 in
set_option maxHeartbeats 4000000 in
theorem jg_Printed_length_29 (zd : Nat) (q_d : 0 ≤ zd) {zh : am_H} {zv : Int} (q_v : zh.1 29 1 = iN zv) : am_wp zd am_m_Printed_length 0 [(0, .ref 29)] [] (78, 76) zh (78, 76) (fun rv h' => rv = some (.int (iN zv)) ∧ zh = h') := by
  obtain ⟨zd, rfl⟩ : ∃ y_e, zd = y_e + 0 := ⟨zd - 0, by omega⟩
  refine wp_run (k := 2) (pc1 := 4) (l1 := [(0, .ref 29)]) (st1 := [.int (iN (zv))]) (kr1 := (78, 76)) (h1 := zh) (Eq.trans (b := (some (4, [(0, .ref 29)], [.int (zh.1 29 1)], (78, 76), zh) : Option am_C)) rfl (by simp only [q_v, Int32.ofInt_add, Int32.ofInt_sub, Int32.ofInt_mul, Int32.ofInt_neg])) ?_
  refine wp_ret (rv := some (.int (iN (zv)))) rfl ?_
  exact ⟨rfl, rfl⟩
set_option maxRecDepth 20000 in
set_option maxHeartbeats 4000000 in
theorem jt_tclear (zd : Nat) (q_d : 0 ≤ zd) {zh : am_H}  : am_wp zd am_m_Text_clear 0 [(0, .ref 27)] [] (78, 76) zh (78, 76) (fun rv h' => rv = none ∧ am_row zh 27 (zUp (zh.1 27) 1 (iN 0)) = h') := by
  obtain ⟨zd, rfl⟩ : ∃ y_e, zd = y_e + 0 := ⟨zd - 0, by omega⟩
  refine wp_run (k := 3) (pc1 := 5) (l1 := [(0, .ref 27)]) (st1 := []) (kr1 := (78, 76)) (h1 := am_wr zh 27 1 (iN (0))) rfl ?_
  refine wp_ret (rv := none) rfl ?_
  exact ⟨rfl, (am_wr_row _ _ _ _).symm⟩
set_option maxRecDepth 20000 in
set_option maxHeartbeats 4000000 in
theorem jt_signAt (zd : Nat) (q_d : 1 ≤ zd) {zh : am_H} {F : Int → Int} {zi zl : Int} (q_l : zh.1 27 1 = iN zl) (q_r : 0 ≤ zl ∧ zl ≤ 120) (q_i : -2147483648 ≤ zi ∧ zi < 2147483648) (q_f : ∀ k : Int, 0 ≤ k → k < zl → zh.1 28 k.toNat = iN (F k)) : am_wp zd am_m_Text_signAt 0 [(0, .ref 27), (1, .int (iN (zi)))] [] (78, 76) zh (78, 76) (fun rv h' => rv = some (.int (iN (if 0 ≤ zi ∧ zi < zl then F zi else -1))) ∧ zh = h') := by
  obtain ⟨zd, rfl⟩ : ∃ y_e, zd = y_e + 1 := ⟨zd - 1, by omega⟩
  refine wp_run (k := 3) (pc1 := 5) (l1 := [(0, .ref 27), (1, .int (iN (zi)))]) (st1 := [.int (iN (zl)), .int (iN (zi))]) (kr1 := (78, 76)) (h1 := zh) (Eq.trans (b := (some (5, [(0, .ref 27), (1, .int (iN (zi)))], [.int (zh.1 27 1), .int (iN (zi))], (78, 76), zh) : Option am_C)) rfl (by simp only [q_l, Int32.ofInt_add, Int32.ofInt_sub, Int32.ofInt_mul, Int32.ofInt_neg])) ?_
  refine wp_call (md1 := am_m_Lp_inside) (As := [.int (iN (zi)), .int (iN (zl))]) (rest := []) (kr1 := (78, 76)) rfl (jt_inside _ (by omega) (zi := zi) (ze := zl) (by omega) (by omega)) ?_
  rintro _ _ ⟨rfl, rfl⟩
  refine wp_eqb rfl (fun b_8 => ?_) (fun b_8 => ?_)
  · refine wp_run (k := 1) (pc1 := 30) (l1 := [(0, .ref 27), (1, .int (iN (zi)))]) (st1 := [.int (iN (-1))]) (kr1 := (78, 76)) (h1 := zh) rfl ?_
    refine wp_ret (rv := some (.int (iN (-1)))) rfl ?_
    exact ⟨by rw [show (if 0 ≤ zi ∧ zi < zl then F zi else -1) = -1 from if_neg (by omega)], rfl⟩
  · refine wp_run (k := 3) (pc1 := 16) (l1 := [(0, .ref 27), (1, .int (iN (zi)))]) (st1 := [.ref 28, .int (iN (zi))]) (kr1 := (78, 76)) (h1 := zh) rfl ?_
    refine wp_alen (v := 120) rfl rfl ?_
    refine wp_ge (a := zi) (b := 120) rfl (by omega) (by omega) (fun b_17 => ?_) (fun b_17 => ?_)
    · exact absurd b_17 (by omega)
    · refine wp_run (k := 3) (pc1 := 25) (l1 := [(0, .ref 27), (1, .int (iN (zi)))]) (st1 := [.int (iN (zi)), .ref 28]) (kr1 := (78, 76)) (h1 := zh) rfl ?_
      refine wp_cald (z := zi) (j := zi.toNat) (n := 120) (v := iN (F zi)) rfl (by decide) (by decide) rfl rfl (by omega) (by omega) (by decide) (q_f zi (by omega) (by omega)) ?_
      refine wp_run (k := 1) (pc1 := 30) (l1 := [(0, .ref 27), (1, .int (iN (zi)))]) (st1 := [.int (iN (F zi))]) (kr1 := (78, 76)) (h1 := zh) rfl ?_
      refine wp_ret (rv := some (.int (iN (F zi)))) rfl ?_
      exact ⟨by rw [show (if 0 ≤ zi ∧ zi < zl then F zi else -1) = F zi from if_pos (by omega)], rfl⟩
set_option maxRecDepth 20000 in
set_option maxHeartbeats 4000000 in
theorem jt_take (zd : Nat) (q_d : 1 ≤ zd) {zh : am_H} {zl zc : Int} (q_l : zh.1 27 1 = iN zl) (q_r : 0 ≤ zl ∧ zl ≤ 120) (q_y : (iN zc).toUInt32.toUInt16.toUInt32.toInt32 = iN zc) : am_wp zd am_m_Text_take 0 [(0, .ref 27), (1, .int (iN (zc)))] [] (78, 76) zh (78, 76) (fun rv h' => rv = some (.int (iN (bI (zl < 120) inferInstance))) ∧ ((zl = 120 ∧ zh = h') ∨ (zl < 120 ∧ am_wr (am_wr zh 28 zl.toNat (iN zc)) 27 1 (iN (zl + 1)) = h'))) := by
  obtain ⟨zd, rfl⟩ : ∃ y_e, zd = y_e + 1 := ⟨zd - 1, by omega⟩
  refine wp_run (k := 4) (pc1 := 8) (l1 := [(0, .ref 27), (1, .int (iN (zc)))]) (st1 := [.ref 28, .int (iN (zl))]) (kr1 := (78, 76)) (h1 := zh) (Eq.trans (b := (some (8, [(0, .ref 27), (1, .int (iN (zc)))], [.ref 28, .int (zh.1 27 1)], (78, 76), zh) : Option am_C)) rfl (by simp only [q_l, Int32.ofInt_add, Int32.ofInt_sub, Int32.ofInt_mul, Int32.ofInt_neg])) ?_
  refine wp_alen (v := 120) rfl rfl ?_
  refine wp_call (md1 := am_m_Lp_inside) (As := [.int (iN (zl)), .int (iN (120))]) (rest := []) (kr1 := (78, 76)) rfl (jt_inside _ (by omega) (zi := zl) (ze := 120) (by omega) (by omega)) ?_
  rintro _ _ ⟨rfl, rfl⟩
  refine wp_neb rfl (fun b_12 => ?_) (fun b_12 => ?_)
  · refine wp_run (k := 5) (pc1 := 26) (l1 := [(0, .ref 27), (1, .int (iN (zc)))]) (st1 := [.int (iN (zc)), .int (iN (zl)), .ref 28]) (kr1 := (78, 76)) (h1 := zh) (Eq.trans (b := (some (26, [(0, .ref 27), (1, .int (iN (zc)))], [.int (iN (zc)), .int (zh.1 27 1), .ref 28], (78, 76), zh) : Option am_C)) rfl (by simp only [q_l, Int32.ofInt_add, Int32.ofInt_sub, Int32.ofInt_mul, Int32.ofInt_neg])) ?_
    refine wp_cast (z := zl) (j := zl.toNat) (n := 120) (y := iN zc) rfl (by decide) (by decide) rfl rfl (by omega) (by omega) (by decide) q_y ?_
    refine wp_run (k := 5) (pc1 := 34) (l1 := [(0, .ref 27), (1, .int (iN (zc)))]) (st1 := [.int (iN ((zl) + (1))), .ref 27]) (kr1 := (78, 76)) (h1 := am_wr zh 28 (zl.toNat) (iN zc)) (Eq.trans (b := (some (34, [(0, .ref 27), (1, .int (iN (zc)))], [.int (((am_wr zh 28 (zl.toNat) (iN zc)).1 27 1) + (iN (1))), .ref 27], (78, 76), am_wr zh 28 (zl.toNat) (iN zc)) : Option am_C)) rfl (by simp only [(show (am_wr zh 28 (zl.toNat) (iN zc)).1 27 1 = iN zl from (congrFun (am_wr_ne (by decide)) 1).trans q_l)]; try simp only [Int32.ofInt_add, Int32.ofInt_sub, Int32.ofInt_mul, Int32.ofInt_neg])) ?_
    refine wp_run (k := 2) (pc1 := 38) (l1 := [(0, .ref 27), (1, .int (iN (zc)))]) (st1 := [.int (iN (1))]) (kr1 := (78, 76)) (h1 := am_wr (am_wr zh 28 (zl.toNat) (iN zc)) 27 1 (iN ((zl) + (1)))) rfl ?_
    refine wp_ret (rv := some (.int (iN (1)))) rfl ?_
    exact ⟨by rw [show bI (zl < 120) inferInstance = 1 from if_pos (by omega)], Or.inr ⟨by omega, rfl⟩⟩
  · refine wp_run (k := 1) (pc1 := 16) (l1 := [(0, .ref 27), (1, .int (iN (zc)))]) (st1 := [.int (iN (0))]) (kr1 := (78, 76)) (h1 := zh) rfl ?_
    refine wp_ret (rv := some (.int (iN (0)))) rfl ?_
    exact ⟨by rw [show bI (zl < 120) inferInstance = 0 from if_neg (by omega)], Or.inl ⟨by omega, rfl⟩⟩
set_option maxRecDepth 20000 in
set_option maxHeartbeats 4000000 in
theorem jt_placeOf (zd : Nat) (q_d : 0 ≤ zd) {zh : am_H} {zs zi : Int}  : am_wp zd am_m_Shelves_placeOf 0 [(0, .ref 31), (1, .int (iN (zs))), (2, .int (iN (zi)))] [] (78, 76) zh (78, 76) (fun rv h' => rv = some (.int (iN (zs * 20 + zi))) ∧ zh = h') := by
  obtain ⟨zd, rfl⟩ : ∃ y_e, zd = y_e + 0 := ⟨zd - 0, by omega⟩
  refine wp_run (k := 5) (pc1 := 6) (l1 := [(0, .ref 31), (1, .int (iN (zs))), (2, .int (iN (zi)))]) (st1 := [.int (iN (((zs) * (20)) + (zi)))]) (kr1 := (78, 76)) (h1 := zh) (Eq.trans (b := (some (6, [(0, .ref 31), (1, .int (iN (zs))), (2, .int (iN (zi)))], [.int (((iN (zs)) * (iN (20))) + (iN (zi)))], (78, 76), zh) : Option am_C)) rfl (by simp only [Int32.ofInt_add, Int32.ofInt_sub, Int32.ofInt_mul, Int32.ofInt_neg])) ?_
  refine wp_ret (rv := some (.int (iN (((zs) * (20)) + (zi))))) rfl ?_
  exact ⟨rfl, rfl⟩
set_option maxRecDepth 20000 in
set_option maxHeartbeats 4000000 in
theorem jt_holds (zd : Nat) (q_d : 1 ≤ zd) {zh : am_H} {Z : Int → Int} {zs : Int} (q_z : ∀ k : Int, 0 ≤ k → k < 4 → zh.1 33 k.toNat = iN (Z k) ∧ -1 ≤ Z k ∧ Z k ≤ 20) (q_s : -2147483648 ≤ zs ∧ zs < 2147483648) : am_wp zd am_m_Shelves_holds 0 [(0, .ref 31), (1, .int (iN (zs)))] [] (78, 76) zh (78, 76) (fun rv h' => rv = some (.int (iN (bI (0 ≤ zs ∧ zs < 4 ∧ 0 ≤ Z zs) inferInstance))) ∧ zh = h') := by
  obtain ⟨zd, rfl⟩ : ∃ y_e, zd = y_e + 1 := ⟨zd - 1, by omega⟩
  refine wp_run (k := 2) (pc1 := 2) (l1 := [(0, .ref 31), (1, .int (iN (zs)))]) (st1 := [.int (iN (4)), .int (iN (zs))]) (kr1 := (78, 76)) (h1 := zh) rfl ?_
  refine wp_call (md1 := am_m_Lp_inside) (As := [.int (iN (zs)), .int (iN (4))]) (rest := []) (kr1 := (78, 76)) rfl (jt_inside _ (by omega) (zi := zs) (ze := 4) (by omega) (by omega)) ?_
  rintro _ _ ⟨rfl, rfl⟩
  refine wp_eqb rfl (fun b_5 => ?_) (fun b_5 => ?_)
  · refine wp_run (k := 1) (pc1 := 24) (l1 := [(0, .ref 31), (1, .int (iN (zs)))]) (st1 := [.int (iN (0))]) (kr1 := (78, 76)) (h1 := zh) rfl ?_
    refine wp_ret (rv := some (.int (iN (0)))) rfl ?_
    exact ⟨by rw [show bI (0 ≤ zs ∧ zs < 4 ∧ 0 ≤ Z zs) inferInstance = 0 from if_neg (by omega)], rfl⟩
  · refine wp_run (k := 3) (pc1 := 13) (l1 := [(0, .ref 31), (1, .int (iN (zs)))]) (st1 := [.int (iN (zs)), .ref 33]) (kr1 := (78, 76)) (h1 := zh) rfl ?_
    refine wp_call (md1 := am_m_Lp_at) (As := [.ref 33, .int (iN (zs))]) (rest := []) (kr1 := (78, 76)) rfl (jt_at _ (by omega) (zn := 4) (zi := zs) (zv := iN (Z zs)) rfl rfl (by decide) (by omega) (by omega) ((q_z zs (by omega) (by omega)).1)) ?_
    rintro _ _ ⟨rfl, rfl⟩
    have y_z := q_z zs (by omega) (by omega)
    refine wp_lt0 (a := Z zs) rfl (by omega) (fun b_16 => ?_) (fun b_16 => ?_)
    · refine wp_run (k := 1) (pc1 := 24) (l1 := [(0, .ref 31), (1, .int (iN (zs)))]) (st1 := [.int (iN (0))]) (kr1 := (78, 76)) (h1 := zh) rfl ?_
      refine wp_ret (rv := some (.int (iN (0)))) rfl ?_
      exact ⟨by rw [show bI (0 ≤ zs ∧ zs < 4 ∧ 0 ≤ Z zs) inferInstance = 0 from if_neg (by omega)], rfl⟩
    · refine wp_run (k := 2) (pc1 := 24) (l1 := [(0, .ref 31), (1, .int (iN (zs)))]) (st1 := [.int (iN (1))]) (kr1 := (78, 76)) (h1 := zh) rfl ?_
      refine wp_ret (rv := some (.int (iN (1)))) rfl ?_
      exact ⟨by rw [show bI (0 ≤ zs ∧ zs < 4 ∧ 0 ≤ Z zs) inferInstance = 1 from if_pos (by omega)], rfl⟩
set_option maxRecDepth 20000 in
set_option maxHeartbeats 4000000 in
theorem jt_hasPlace (zd : Nat) (q_d : 2 ≤ zd) {zh : am_H} {Z : Int → Int} {zs zi : Int} (q_z : ∀ k : Int, 0 ≤ k → k < 4 → zh.1 33 k.toNat = iN (Z k) ∧ -1 ≤ Z k ∧ Z k ≤ 20) (q_s : -2147483648 ≤ zs ∧ zs < 2147483648) (q_i : -2147483648 ≤ zi ∧ zi < 2147483648) : am_wp zd am_m_Shelves_hasPlace 0 [(0, .ref 31), (1, .int (iN (zs))), (2, .int (iN (zi)))] [] (78, 76) zh (78, 76) (fun rv h' => rv = some (.int (iN (bI (0 ≤ zs ∧ zs < 4 ∧ 0 ≤ zi ∧ zi < Z zs) inferInstance))) ∧ zh = h') := by
  obtain ⟨zd, rfl⟩ : ∃ y_e, zd = y_e + 2 := ⟨zd - 2, by omega⟩
  refine wp_run (k := 2) (pc1 := 2) (l1 := [(0, .ref 31), (1, .int (iN (zs))), (2, .int (iN (zi)))]) (st1 := [.int (iN (zs)), .ref 31]) (kr1 := (78, 76)) (h1 := zh) rfl ?_
  refine wp_call (md1 := am_m_Shelves_holds) (As := [.ref 31, .int (iN (zs))]) (rest := []) (kr1 := (78, 76)) rfl (jt_holds _ (by omega) q_z (zs := zs) (by omega)) ?_
  rintro _ _ ⟨rfl, rfl⟩
  refine wp_eqb rfl (fun b_5 => ?_) (fun b_5 => ?_)
  · refine wp_run (k := 1) (pc1 := 28) (l1 := [(0, .ref 31), (1, .int (iN (zs))), (2, .int (iN (zi)))]) (st1 := [.int (iN (0))]) (kr1 := (78, 76)) (h1 := zh) rfl ?_
    refine wp_ret (rv := some (.int (iN (0)))) rfl ?_
    exact ⟨by rw [show bI (0 ≤ zs ∧ zs < 4 ∧ 0 ≤ zi ∧ zi < Z zs) inferInstance = 0 from if_neg (by omega)], rfl⟩
  · have y_z := q_z zs (by omega) (by omega)
    refine wp_run (k := 4) (pc1 := 14) (l1 := [(0, .ref 31), (1, .int (iN (zs))), (2, .int (iN (zi)))]) (st1 := [.int (iN (zs)), .ref 33, .int (iN (zi))]) (kr1 := (78, 76)) (h1 := zh) rfl ?_
    refine wp_call (md1 := am_m_Lp_at) (As := [.ref 33, .int (iN (zs))]) (rest := [.int (iN (zi))]) (kr1 := (78, 76)) rfl (jt_at _ (by omega) (zn := 4) (zi := zs) (zv := iN (Z zs)) rfl rfl (by decide) (by omega) (by omega) ((q_z zs (by omega) (by omega)).1)) ?_
    rintro _ _ ⟨rfl, rfl⟩
    refine wp_call (md1 := am_m_Lp_inside) (As := [.int (iN (zi)), .int (iN (Z zs))]) (rest := []) (kr1 := (78, 76)) rfl (jt_inside _ (by omega) (zi := zi) (ze := Z zs) (by omega) (by omega)) ?_
    rintro _ _ ⟨rfl, rfl⟩
    refine wp_eqb rfl (fun b_20 => ?_) (fun b_20 => ?_)
    · refine wp_run (k := 1) (pc1 := 28) (l1 := [(0, .ref 31), (1, .int (iN (zs))), (2, .int (iN (zi)))]) (st1 := [.int (iN (0))]) (kr1 := (78, 76)) (h1 := zh) rfl ?_
      refine wp_ret (rv := some (.int (iN (0)))) rfl ?_
      exact ⟨by rw [show bI (0 ≤ zs ∧ zs < 4 ∧ 0 ≤ zi ∧ zi < Z zs) inferInstance = 0 from if_neg (by omega)], rfl⟩
    · refine wp_run (k := 2) (pc1 := 28) (l1 := [(0, .ref 31), (1, .int (iN (zs))), (2, .int (iN (zi)))]) (st1 := [.int (iN (1))]) (kr1 := (78, 76)) (h1 := zh) rfl ?_
      refine wp_ret (rv := some (.int (iN (1)))) rfl ?_
      exact ⟨by rw [show bI (0 ≤ zs ∧ zs < 4 ∧ 0 ≤ zi ∧ zi < Z zs) inferInstance = 1 from if_pos (by omega)], rfl⟩
