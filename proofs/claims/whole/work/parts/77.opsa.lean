/-! ONE CALL on both sides: the calls that change nothing that counts -/
/-- both answer the same, and both are again what they should be -/
def zBoth (zd : Nat) (mL mR : am_MD) (As : am_LV) (n : Nat) (P : zSta) : Prop := ∃ (v : Int32) (P' : zSta), zPu P' ∧ (∀ h : am_H, zIL n P h → am_wp zd mL 0 ((0, .ref 0) :: As) [] (78, 76) h (78, 76) (fun rv h' => rv = some (.int v) ∧ zIL (n + 1) P' h' ∧ zKL h h')) ∧ ∀ h : am_H, zIR P h → am_wp zd mR 0 ((0, .ref 55) :: As) [] (78, 76) h (78, 76) (fun rv h' => rv = some (.int v) ∧ zIR P' h' ∧ zKR h h')
def zBotJ (zd : Nat) (mL mR : am_MD) (As : am_LV) (n : Nat) (P : zSta) : Prop := ∃ (v : Int64) (P' : zSta), zPu P' ∧ (∀ h : am_H, zIL n P h → am_wp zd mL 0 ((0, .ref 0) :: As) [] (78, 76) h (78, 76) (fun rv h' => rv = some (.long v) ∧ zIL (n + 1) P' h' ∧ zKL h h')) ∧ ∀ h : am_H, zIR P h → am_wp zd mR 0 ((0, .ref 55) :: As) [] (78, 76) h (78, 76) (fun rv h' => rv = some (.long v) ∧ zIR P' h' ∧ zKR h h')
theorem zIL_0 {n : Nat} {P : zSta} {h h' : am_H} (q : zIL n P h) (e : h = h') : zIL (n + 1) P h' ∧ zKL h h' := by
  subst e
  exact ⟨⟨q.1, q.2.1, q.2.2.1, q.2.2.2.1, q.2.2.2.2.1, q.2.2.2.2.2.1, zJk_s (Nat.le_succ n) q.2.2.2.2.2.2⟩, zKL_0 h⟩
theorem zIL_w {ks : List Nat} {n m : Nat} {P : zSta} {h h' : am_H} (q : zIL n P h) (qf : am_fr ks h h') (q1 : ∀ c, c ∈ [0, 1, 2, 24, 25, 26, 27, 28, 33, 51, 52, 54] → c ∉ ks) (q2 : zJk m h' P.xN P.xG P.xS P.xT) : zIL m P h' := by
  refine ⟨?_, ?_, ?_, ?_, ?_, ?_, q2⟩
  · rw [qf.2 1 (q1 _ (by decide)), qf.2 2 (q1 _ (by decide))]; exact q.1
  · rw [qf.2 24 (q1 _ (by decide))]; exact q.2.1
  · rw [qf.2 25 (q1 _ (by decide)), qf.2 26 (q1 _ (by decide))]; exact q.2.2.1
  · rw [qf.2 27 (q1 _ (by decide)), qf.2 28 (q1 _ (by decide))]; exact q.2.2.2.1
  · rw [qf.2 33 (q1 _ (by decide)), qf.1]; exact q.2.2.2.2.1
  · rw [qf.2 0 (q1 _ (by decide)), qf.2 51 (q1 _ (by decide)), qf.2 52 (q1 _ (by decide)), qf.2 54 (q1 _ (by decide))]; exact q.2.2.2.2.2.1
theorem zJb_P {n : Nat} {h h' : am_H} {N : Int} {G : Int → Int → Int} {S T zs zk zb zt zj : Int} (q_N : 1 ≤ N) (q : zJb n h N G S T zs zk zb zt zj) (qf : am_fr [3, 5, 6, 7, 8, 9, 10, 11, 12, 13, 14, 15, 16, 17, 29, 30] h h') (q3 : h'.1 3 1 = iN zs) (qp : zPlan_3 h' N G T) : zJk (n + 1) h' N G S T := by
  obtain ⟨⟨a1, a2, a3, a4, a5⟩, b1, b2, b3, b4, ⟨c1, c2⟩, e1, e2⟩ := q
  refine ⟨zs, zs, zb, zt, zj, ⟨?_, q3, ?_, ?_, ?_⟩, by omega, by omega, b3, by omega, ⟨?_, ?_⟩, fun _ => qp, fun y => ?_⟩
  · rw [qf.2 1 (by decide)]; exact a1
  · rw [qf.2 18 (by decide)]; exact a3
  · rw [qf.2 34 (by decide)]; exact a4
  · rw [qf.2 36 (by decide)]; exact a5
  · exact qp.1.1 0 (by omega) (by omega)
  · rw [qf.2 41 (by decide)]; exact c2
  · exact zBnd_f qf (by decide) (by decide) (by decide) (e2 y)
theorem zIL_P {n : Nat} {P : zSta} {h h' : am_H} {zs zk zb zt zj : Int} (q_P : zPu P) (q : zIL n P h) (q_b : zJb n h P.xN P.xG P.xS P.xT zs zk zb zt zj) (e : h = h' ∨ (am_fr [3, 5, 6, 7, 8, 9, 10, 11, 12, 13, 14, 15, 16, 17, 29, 30] h h' ∧ h'.1 3 1 = iN zs ∧ zPlan_3 h' P.xN P.xG P.xT)) : zIL (n + 1) P h' ∧ zKL h h' := by
  rcases e with e | ⟨qf, q3, qp⟩
  · exact zIL_0 q e
  · exact ⟨zIL_w q qf (by decide) (zJb_P q_P.1.1.1 q_b qf q3 qp), zKL_f qf (by decide)⟩
theorem zEP_o {h h' : am_H} {zs N : Int} {G : Int → Int → Int} {T : Int} (q : zEP h h' zs N G T) : h = h' ∨ (am_fr [3, 5, 6, 7, 8, 9, 10, 11, 12, 13, 14, 15, 16, 17, 29, 30] h h' ∧ h'.1 3 1 = iN zs ∧ zPlan_3 h' N G T) := by
  rcases q with q | ⟨qf, q3, qp⟩
  · exact Or.inl q
  · exact Or.inr ⟨am_fr_m qf (by decide), q3, qp⟩
theorem zIL_B {n : Nat} {P : zSta} {h h' : am_H} {zs zk zb zt zj : Int} (q : zIL n P h) (q_b : zJb n h P.xN P.xG P.xS P.xT zs zk zb zt zj) (e : zEB h h' zs P.xN P.xG P.xS P.xT) : zIL (n + 1) P h' ∧ zKL h h' := by
  rcases e with e | ⟨qf, q3, qp⟩
  · exact zIL_0 q e
  · obtain ⟨⟨a1, a2, a3, a4, a5⟩, b1, b2, b3, b4, ⟨c1, c2⟩, e1, e2⟩ := q_b
    refine ⟨zIL_w q qf (by decide) ⟨zs, zk, zs, zt, zj, ⟨?_, ?_, q3, ?_, ?_⟩, by omega, b2, by omega, by omega, ⟨?_, ?_⟩, fun y => ?_, fun _ => qp⟩, zKL_f qf (by decide)⟩
    · rw [qf.2 1 (by decide)]; exact a1
    · rw [qf.2 3 (by decide)]; exact a2
    · rw [qf.2 34 (by decide)]; exact a4
    · rw [qf.2 36 (by decide)]; exact a5
    · rw [qf.2 8 (by decide)]; exact c1
    · rw [qf.2 41 (by decide)]; exact c2
    · exact zPlan_f_3 qf (by decide) (e1 y)
theorem zIL_W {n : Nat} {P : zSta} {h h' : am_H} {zs zk zb zt zj zx : Int} (q_x : 0 ≤ zx ∧ zx ≤ 5000) (q : zIL n P h) (q_b : zJb n h P.xN P.xG P.xS P.xT zs zk zb zt zj) (e : zEW h h' zs zk zt zx P.xN P.xG P.xT) : zIL (n + 1) P h' ∧ zKL h h' := by
  obtain ⟨qf, ⟨zu, zv, f1, f2, f3, f4, f5, f6⟩, g1, g2, zl, g3, g4, g5⟩ := e
  obtain ⟨⟨a1, a2, a3, a4, a5⟩, b1, b2, b3, b4, ⟨c1, c2⟩, e1, e2⟩ := q_b
  refine ⟨zIL_w q qf (by decide) ⟨zs, zl, zb, zu, zv, ⟨?_, g3, ?_, f1, f2⟩, by omega, by omega, b3, by omega, ⟨g2, g1⟩, g5, fun y => ?_⟩, zKL_f qf (by decide)⟩
  · rw [qf.2 1 (by decide)]; exact a1
  · rw [qf.2 18 (by decide)]; exact a3
  · exact zBnd_f qf (by decide) (by decide) (by decide) (e2 y)
theorem zIL_22 {n : Nat} {P : zSta} {h h' : am_H} (q : zIL n P h) (qf : am_fr [22] h h') : zIL (n + 1) P h' ∧ zKL h h' := ⟨zIL_w q qf (by decide) (zJk_f (Nat.le_succ n) qf.2 (by decide) q.2.2.2.2.2.2), zKL_f qf (by decide)⟩
theorem zIR_0 {P : zSta} {h h' : am_H} (q : zIR P h) (e : h = h') : zIR P h' ∧ zKR h h' := by
  subst e
  exact ⟨q, zKR_0 h⟩
theorem zIR_S {P : zSta} {h h' : am_H} (q : zIR P h) (e : zRS h h') : zIR P h' ∧ zKR h h' := by
  obtain ⟨qf, s0, s4, s5, s7, s36⟩ := e
  refine ⟨?_, zKR_f qf (by decide)⟩
  unfold zIR at q ⊢
  rw [qf.2 56 (by decide), qf.2 57 (by decide), qf.2 58 (by decide), qf.2 59 (by decide), qf.2 74 (by decide), qf.1, qf.2 76 (by decide), qf.2 77 (by decide), s4, s5, s7, s36]
  exact ⟨zMm_g q.1 s0 rfl, q.2⟩
set_option maxRecDepth 20000 in
set_option maxHeartbeats 4000000 in
theorem jo_least (zd : Nat) (q_d : 8 ≤ zd) {n : Nat} {P : zSta} (q_n : n ≤ 600) (q_P : zPu P)  : zBoth zd am_m_Lp_least am_m_Model_least [] n P := by
  refine ⟨(iN ((zPv P.xG P.xT P.xN 0).1)), P, q_P, fun h q_h => ?_, fun h q_h => ?_⟩
  · have q_h0 := q_h
    obtain ⟨q_nm, q_hd, q_c, q_t, q_s, q_i, zs, zk, zb, zt, zj, q_b⟩ := q_h
    have q_b0 := q_b
    obtain ⟨⟨a1, a2, a3, a4, a5⟩, b1, b2, b3, b4, ⟨c1, c2⟩, e1, e2⟩ := q_b
    exact wp_con (jL_least zd (by omega) q_nm q_P.1 c1 a1 a2 (by omega) e1) (fun rv h' z => ⟨z.1, zIL_P q_P q_h0 q_b0 (zEP_o z.2)⟩)
  · exact wp_con (jR_least zd (by omega) q_h.1 q_P.1) (fun rv h' z => ⟨z.1, zIR_S q_h z.2⟩)
set_option maxRecDepth 20000 in
set_option maxHeartbeats 4000000 in
theorem jo_ways (zd : Nat) (q_d : 8 ≤ zd) {n : Nat} {P : zSta} (q_n : n ≤ 600) (q_P : zPu P)  : zBoth zd am_m_Lp_ways am_m_Model_ways [] n P := by
  refine ⟨(iN ((zPv P.xG P.xT P.xN 0).2.2)), P, q_P, fun h q_h => ?_, fun h q_h => ?_⟩
  · have q_h0 := q_h
    obtain ⟨q_nm, q_hd, q_c, q_t, q_s, q_i, zs, zk, zb, zt, zj, q_b⟩ := q_h
    have q_b0 := q_b
    obtain ⟨⟨a1, a2, a3, a4, a5⟩, b1, b2, b3, b4, ⟨c1, c2⟩, e1, e2⟩ := q_b
    exact wp_con (jL_ways zd (by omega) q_nm q_P.1 c1 a1 a2 (by omega) e1) (fun rv h' z => ⟨z.1, zIL_P q_P q_h0 q_b0 (zEP_o z.2)⟩)
  · exact wp_con (jR_ways zd (by omega) q_h.1 q_P.1) (fun rv h' z => ⟨z.1, zIR_S q_h z.2⟩)
set_option maxRecDepth 20000 in
set_option maxHeartbeats 4000000 in
theorem jo_lot (zd : Nat) (q_d : 8 ≤ zd) {n : Nat} {P : zSta} {zi zw : Int} (q_n : n ≤ 600) (q_P : zPu P) (q_zir : -2147483648 ≤ zi ∧ zi < 2147483648) (q_zwr : -2147483648 ≤ zw ∧ zw < 2147483648) : zBoth zd am_m_Lp_lot am_m_Model_lot [(1, .int (iN zi)), (2, .int (iN zw))] n P := by
  refine ⟨(iN (zVlot P.xN P.xG P.xT zi zw)), P, q_P, fun h q_h => ?_, fun h q_h => ?_⟩
  · have q_h0 := q_h
    obtain ⟨q_nm, q_hd, q_c, q_t, q_s, q_i, zs, zk, zb, zt, zj, q_b⟩ := q_h
    have q_b0 := q_b
    obtain ⟨⟨a1, a2, a3, a4, a5⟩, b1, b2, b3, b4, ⟨c1, c2⟩, e1, e2⟩ := q_b
    exact wp_con (jL_lot zd (by omega) q_nm q_P.1 c1 a1 a2 (by omega) e1 q_zir q_zwr) (fun rv h' z => ⟨z.1, zIL_P q_P q_h0 q_b0 (zEP_o z.2)⟩)
  · exact wp_con (jR_lot zd (by omega) q_h.1 q_P.1 q_zir q_zwr) (fun rv h' z => ⟨z.1, zIR_S q_h z.2⟩)
set_option maxRecDepth 20000 in
set_option maxHeartbeats 4000000 in
theorem jo_by (zd : Nat) (q_d : 8 ≤ zd) {n : Nat} {P : zSta} {zp zw : Int} (q_n : n ≤ 600) (q_P : zPu P) (q_zpr : -2147483648 ≤ zp ∧ zp < 2147483648) (q_zwr : -2147483648 ≤ zw ∧ zw < 2147483648) : zBoth zd am_m_Lp_by am_m_Model_by [(1, .int (iN zp)), (2, .int (iN zw))] n P := by
  refine ⟨(iN (zVby P.xN P.xG P.xT zp zw)), P, q_P, fun h q_h => ?_, fun h q_h => ?_⟩
  · have q_h0 := q_h
    obtain ⟨q_nm, q_hd, q_c, q_t, q_s, q_i, zs, zk, zb, zt, zj, q_b⟩ := q_h
    have q_b0 := q_b
    obtain ⟨⟨a1, a2, a3, a4, a5⟩, b1, b2, b3, b4, ⟨c1, c2⟩, e1, e2⟩ := q_b
    exact wp_con (jL_by zd (by omega) q_nm q_P.1 c1 a1 a2 (by omega) e1 q_zpr q_zwr) (fun rv h' z => ⟨z.1, zIL_P q_P q_h0 q_b0 (zEP_o z.2)⟩)
  · exact wp_con (jR_by zd (by omega) q_h.1 q_P.1 q_zpr q_zwr) (fun rv h' z => ⟨z.1, zIR_S q_h z.2⟩)
set_option maxRecDepth 20000 in
set_option maxHeartbeats 4000000 in
theorem jo_forward (zd : Nat) (q_d : 8 ≤ zd) {n : Nat} {P : zSta} {zp zw : Int} (q_n : n ≤ 600) (q_P : zPu P) (q_zpr : -2147483648 ≤ zp ∧ zp < 2147483648) (q_zwr : -2147483648 ≤ zw ∧ zw < 2147483648) : zBoth zd am_m_Lp_forward am_m_Model_forward [(1, .int (iN zp)), (2, .int (iN zw))] n P := by
  refine ⟨(iN (zVfwd P.xN P.xG P.xT zp zw)), P, q_P, fun h q_h => ?_, fun h q_h => ?_⟩
  · have q_h0 := q_h
    obtain ⟨q_nm, q_hd, q_c, q_t, q_s, q_i, zs, zk, zb, zt, zj, q_b⟩ := q_h
    have q_b0 := q_b
    obtain ⟨⟨a1, a2, a3, a4, a5⟩, b1, b2, b3, b4, ⟨c1, c2⟩, e1, e2⟩ := q_b
    exact wp_con (jL_forward zd (by omega) q_nm q_P.1 c1 a1 a2 (by omega) e1 q_zpr q_zwr) (fun rv h' z => ⟨z.1, zIL_P q_P q_h0 q_b0 (zEP_o z.2)⟩)
  · exact wp_con (jR_forward zd (by omega) q_h.1 q_P.1 q_zpr q_zwr) (fun rv h' z => ⟨z.1, zIR_S q_h z.2⟩)
set_option maxRecDepth 20000 in
set_option maxHeartbeats 4000000 in
theorem jo_part (zd : Nat) (q_d : 8 ≤ zd) {n : Nat} {P : zSta} {za zn : Int} (q_n : n ≤ 600) (q_P : zPu P) (q_zar : -2147483648 ≤ za ∧ za < 2147483648) (q_znr : -2147483648 ≤ zn ∧ zn < 2147483648) : zBoth zd am_m_Lp_part am_m_Model_part [(1, .int (iN za)), (2, .int (iN zn))] n P := by
  refine ⟨(iN (zVpart P.xN P.xG P.xT za zn)), P, q_P, fun h q_h => ?_, fun h q_h => ?_⟩
  · have q_h0 := q_h
    obtain ⟨q_nm, q_hd, q_c, q_t, q_s, q_i, zs, zk, zb, zt, zj, q_b⟩ := q_h
    have q_b0 := q_b
    obtain ⟨⟨a1, a2, a3, a4, a5⟩, b1, b2, b3, b4, ⟨c1, c2⟩, e1, e2⟩ := q_b
    exact wp_con (jL_part zd (by omega) q_nm q_P.1 c1 a1 a2 (by omega) e1 q_zar q_znr) (fun rv h' z => ⟨z.1, zIL_P q_P q_h0 q_b0 (zEP_o z.2)⟩)
  · exact wp_con (jR_part zd (by omega) q_h.1 q_P.1 q_zar q_znr) (fun rv h' z => ⟨z.1, zIR_S q_h z.2⟩)
set_option maxRecDepth 20000 in
set_option maxHeartbeats 4000000 in
theorem jo_print (zd : Nat) (q_d : 8 ≤ zd) {n : Nat} {P : zSta} {zi : Int} (q_n : n ≤ 600) (q_P : zPu P) (q_zir : -2147483648 ≤ zi ∧ zi < 2147483648) : zBoth zd am_m_Lp_print am_m_Model_print [(1, .int (iN zi))] n P := by
  refine ⟨(iN (zVprint P.xN P.xG P.xT zi)), P, q_P, fun h q_h => ?_, fun h q_h => ?_⟩
  · have q_h0 := q_h
    obtain ⟨q_nm, q_hd, q_c, q_t, q_s, q_i, zs, zk, zb, zt, zj, q_b⟩ := q_h
    have q_b0 := q_b
    obtain ⟨⟨a1, a2, a3, a4, a5⟩, b1, b2, b3, b4, ⟨c1, c2⟩, e1, e2⟩ := q_b
    exact wp_con (jL_print zd (by omega) q_nm q_P.1 c1 a1 a2 (by omega) e1 q_zir) (fun rv h' z => ⟨z.1, zIL_P q_P q_h0 q_b0 z.2⟩)
  · exact wp_con (jR_print zd (by omega) q_h.1 q_P.1 q_zir) (fun rv h' z => ⟨z.1, zIR_S q_h z.2⟩)
set_option maxRecDepth 20000 in
set_option maxHeartbeats 4000000 in
theorem jo_bounded (zd : Nat) (q_d : 8 ≤ zd) {n : Nat} {P : zSta} {zp : Int} (q_n : n ≤ 600) (q_P : zPu P) (q_zpr : -2147483648 ≤ zp ∧ zp < 2147483648) : zBoth zd am_m_Lp_bounded am_m_Model_bounded [(1, .int (iN zp))] n P := by
  refine ⟨(iN (zVbd P.xN P.xG P.xS P.xT zp)), P, q_P, fun h q_h => ?_, fun h q_h => ?_⟩
  · have q_h0 := q_h
    obtain ⟨q_nm, q_hd, q_c, q_t, q_s, q_i, zs, zk, zb, zt, zj, q_b⟩ := q_h
    have q_b0 := q_b
    obtain ⟨⟨a1, a2, a3, a4, a5⟩, b1, b2, b3, b4, ⟨c1, c2⟩, e1, e2⟩ := q_b
    exact wp_con (jL_bounded zd (by omega) q_nm q_P.1 a1 a3 (by omega) e2 q_zpr) (fun rv h' z => ⟨z.1, zIL_B q_h0 q_b0 z.2⟩)
  · exact wp_con (jR_bounded zd (by omega) q_h.1 q_P.1 q_zpr) (fun rv h' z => ⟨z.1, zIR_S q_h z.2⟩)
set_option maxRecDepth 20000 in
set_option maxHeartbeats 4000000 in
theorem jo_rule (zd : Nat) (q_d : 8 ≤ zd) {n : Nat} {P : zSta} {zr zn zw : Int} (q_n : n ≤ 600) (q_P : zPu P) (q_zrr : -2147483648 ≤ zr ∧ zr < 2147483648) (q_znr : -2147483648 ≤ zn ∧ zn < 2147483648) (q_zwr : -2147483648 ≤ zw ∧ zw < 2147483648) : zBoth zd am_m_Lp_rule am_m_Model_rule [(1, .int (iN zr)), (2, .int (iN zn)), (3, .int (iN zw))] n P := by
  refine ⟨(zVru P.xN P.xG zr zn zw), P, q_P, fun h q_h => ?_, fun h q_h => ?_⟩
  · have q_h0 := q_h
    obtain ⟨q_nm, q_hd, q_c, q_t, q_s, q_i, zs, zk, zb, zt, zj, q_b⟩ := q_h
    have q_b0 := q_b
    obtain ⟨⟨a1, a2, a3, a4, a5⟩, b1, b2, b3, b4, ⟨c1, c2⟩, e1, e2⟩ := q_b
    exact wp_con (jL_rule zd (by omega) q_nm q_P.1 q_zrr q_znr q_zwr) (fun rv h' z => ⟨z.1, zIL_22 q_h0 z.2⟩)
  · exact wp_con (jR_rule zd (by omega) q_h.1 q_P.1 q_zrr q_znr q_zwr) (fun rv h' z => ⟨z.1, zIR_S q_h z.2⟩)
set_option maxRecDepth 20000 in
set_option maxHeartbeats 4000000 in
theorem jo_thumb (zd : Nat) (q_d : 8 ≤ zd) {n : Nat} {P : zSta} (q_n : n ≤ 600) (q_P : zPu P)  : zBoth zd am_m_Lp_thumb am_m_Model_thumb [] n P := by
  refine ⟨(iN (zTm P.xN P.xG 19).2), P, q_P, fun h q_h => ?_, fun h q_h => ?_⟩
  · have q_h0 := q_h
    obtain ⟨q_nm, q_hd, q_c, q_t, q_s, q_i, zs, zk, zb, zt, zj, q_b⟩ := q_h
    have q_b0 := q_b
    obtain ⟨⟨a1, a2, a3, a4, a5⟩, b1, b2, b3, b4, ⟨c1, c2⟩, e1, e2⟩ := q_b
    exact wp_con (jL_thumb zd (by omega) q_nm q_P.1) (fun rv h' z => ⟨z.1, zIL_22 q_h0 z.2⟩)
  · exact wp_con (jR_thumb zd (by omega) q_h.1 q_P.1) (fun rv h' z => ⟨z.1, zIR_S q_h z.2⟩)
set_option maxRecDepth 20000 in
set_option maxHeartbeats 4000000 in
theorem jo_judged (zd : Nat) (q_d : 8 ≤ zd) {n : Nat} {P : zSta} {zw : Int} (q_n : n ≤ 600) (q_P : zPu P) (q_zwr : -2147483648 ≤ zw ∧ zw < 2147483648) : zBoth zd am_m_Lp_judged am_m_Model_judged [(1, .int (iN zw))] n P := by
  refine ⟨(iN (zVju P.xN P.xG P.xS P.xT P.xB zw)), P, q_P, fun h q_h => ?_, fun h q_h => ?_⟩
  · have q_h0 := q_h
    obtain ⟨q_nm, q_hd, q_c, q_t, q_s, q_i, zs, zk, zb, zt, zj, q_b⟩ := q_h
    have q_b0 := q_b
    obtain ⟨⟨a1, a2, a3, a4, a5⟩, b1, b2, b3, b4, ⟨c1, c2⟩, e1, e2⟩ := q_b
    exact wp_con (jL_judged zd (by omega) q_nm q_P.1 q_hd q_P.2.1 q_zwr) (fun rv h' z => ⟨z.1, zIL_0 q_h0 z.2⟩)
  · exact wp_con (jR_judged zd (by omega) q_h.1 q_P.1 q_h.2.1 q_P.2.1 q_zwr) (fun rv h' z => ⟨z.1, zIR_0 q_h z.2⟩)
set_option maxRecDepth 20000 in
set_option maxHeartbeats 4000000 in
theorem jo_more (zd : Nat) (q_d : 8 ≤ zd) {n : Nat} {P : zSta} {zp : Int} (q_n : n ≤ 600) (q_P : zPu P) (q_zpr : -2147483648 ≤ zp ∧ zp < 2147483648) : zBoth zd am_m_Lp_more am_m_Model_more [(1, .int (iN zp))] n P := by
  refine ⟨(iN (zVmore P.xN P.xG P.xT zp)), P, q_P, fun h q_h => ?_, fun h q_h => ?_⟩
  · have q_h0 := q_h
    obtain ⟨q_nm, q_hd, q_c, q_t, q_s, q_i, zs, zk, zb, zt, zj, q_b⟩ := q_h
    have q_b0 := q_b
    obtain ⟨⟨a1, a2, a3, a4, a5⟩, b1, b2, b3, b4, ⟨c1, c2⟩, e1, e2⟩ := q_b
    exact wp_con (jL_more zd (by omega) q_nm q_P.1 c1 a1 a2 (by omega) e1 a4 a5 (by omega) c2 q_zpr) (fun rv h' z => ⟨z.1, zIL_W (zx := 2) (by omega) q_h0 q_b0 z.2⟩)
  · exact wp_con (jR_more zd (by omega) q_h.1 q_P.1 q_zpr) (fun rv h' z => ⟨z.1, zIR_S q_h z.2⟩)
set_option maxRecDepth 20000 in
set_option maxHeartbeats 4000000 in
theorem jo_touched (zd : Nat) (q_d : 8 ≤ zd) {n : Nat} {P : zSta} {zp zv zw : Int} (q_n : n ≤ 600) (q_P : zPu P) (q_zpr : -2147483648 ≤ zp ∧ zp < 2147483648) (q_zvr : -2147483648 ≤ zv ∧ zv < 2147483648) (q_zwr : -2147483648 ≤ zw ∧ zw < 2147483648) : zBoth zd am_m_Lp_touched am_m_Model_touched [(1, .int (iN zp)), (2, .int (iN zv)), (3, .int (iN zw))] n P := by
  refine ⟨(iN (zVtou P.xN P.xG P.xT zp zv zw)), P, q_P, fun h q_h => ?_, fun h q_h => ?_⟩
  · have q_h0 := q_h
    obtain ⟨q_nm, q_hd, q_c, q_t, q_s, q_i, zs, zk, zb, zt, zj, q_b⟩ := q_h
    have q_b0 := q_b
    obtain ⟨⟨a1, a2, a3, a4, a5⟩, b1, b2, b3, b4, ⟨c1, c2⟩, e1, e2⟩ := q_b
    exact wp_con (jL_touched zd (by omega) q_nm q_P.1 c1 a1 a2 (by omega) e1 a4 a5 (by omega) c2 q_zpr q_zvr q_zwr) (fun rv h' z => ⟨z.1, zIL_W (zx := 2) (by omega) q_h0 q_b0 z.2⟩)
  · exact wp_con (jR_touched zd (by omega) q_h.1 q_P.1 q_zpr q_zvr q_zwr) (fun rv h' z => ⟨z.1, zIR_S q_h z.2⟩)
set_option maxRecDepth 20000 in
set_option maxHeartbeats 4000000 in
theorem jo_keeps (zd : Nat) (q_d : 8 ≤ zd) {n : Nat} {P : zSta} {zp : Int} (q_n : n ≤ 600) (q_P : zPu P) (q_zpr : -2147483648 ≤ zp ∧ zp < 2147483648) : zBoth zd am_m_Lp_keeps am_m_Model_keeps [(1, .int (iN zp))] n P := by
  refine ⟨(iN (zVkeep P.xN P.xG P.xT zp)), P, q_P, fun h q_h => ?_, fun h q_h => ?_⟩
  · have q_h0 := q_h
    obtain ⟨q_nm, q_hd, q_c, q_t, q_s, q_i, zs, zk, zb, zt, zj, q_b⟩ := q_h
    have q_b0 := q_b
    obtain ⟨⟨a1, a2, a3, a4, a5⟩, b1, b2, b3, b4, ⟨c1, c2⟩, e1, e2⟩ := q_b
    exact wp_con (jL_keeps zd (by omega) q_nm q_P.1 c1 a1 a2 (by omega) e1 a4 a5 (by omega) c2 q_zpr) (fun rv h' z => ⟨z.1, zIL_W (zx := 20) (by omega) q_h0 q_b0 z.2⟩)
  · exact wp_con (jR_keeps zd (by omega) q_h.1 q_P.1 q_zpr) (fun rv h' z => ⟨z.1, zIR_S q_h z.2⟩)
set_option maxRecDepth 20000 in
set_option maxHeartbeats 4000000 in
theorem jo_of (zd : Nat) (q_d : 8 ≤ zd) {n : Nat} {P : zSta} {zp zw : Int} (q_n : n ≤ 600) (q_P : zPu P) (q_zpr : -2147483648 ≤ zp ∧ zp < 2147483648) (q_zwr : -2147483648 ≤ zw ∧ zw < 2147483648) : zBoth zd am_m_Lp_of am_m_Model_of [(1, .int (iN zp)), (2, .int (iN zw))] n P := by
  refine ⟨(iN (zVof P.xN P.xG zp zw)), P, q_P, fun h q_h => ?_, fun h q_h => ?_⟩
  · have q_h0 := q_h
    obtain ⟨q_nm, q_hd, q_c, q_t, q_s, q_i, zs, zk, zb, zt, zj, q_b⟩ := q_h
    have q_b0 := q_b
    obtain ⟨⟨a1, a2, a3, a4, a5⟩, b1, b2, b3, b4, ⟨c1, c2⟩, e1, e2⟩ := q_b
    exact wp_con (jL_of zd (by omega) q_nm q_P.1 q_zpr q_zwr) (fun rv h' z => ⟨z.1, zIL_0 q_h0 z.2⟩)
  · exact wp_con (jR_of zd (by omega) q_h.1 q_P.1 q_zpr q_zwr) (fun rv h' z => ⟨z.1, zIR_S q_h z.2⟩)
set_option maxRecDepth 20000 in
set_option maxHeartbeats 4000000 in
theorem jo_calm (zd : Nat) (q_d : 8 ≤ zd) {n : Nat} {P : zSta} (q_n : n ≤ 600) (q_P : zPu P)  : zBoth zd am_m_Lp_calm am_m_Model_calm [] n P := by
  refine ⟨(iN (bI (zCalm P.xN P.xG P.xT) (Classical.propDecidable _))), P, q_P, fun h q_h => ?_, fun h q_h => ?_⟩
  · have q_h0 := q_h
    obtain ⟨q_nm, q_hd, q_c, q_t, q_s, q_i, zs, zk, zb, zt, zj, q_b⟩ := q_h
    have q_b0 := q_b
    obtain ⟨⟨a1, a2, a3, a4, a5⟩, b1, b2, b3, b4, ⟨c1, c2⟩, e1, e2⟩ := q_b
    exact wp_con (jL_calm zd (by omega) q_nm q_P.1) (fun rv h' z => ⟨z.1, zIL_0 q_h0 z.2⟩)
  · exact wp_con (jR_calm zd (by omega) q_h.1 q_P.1) (fun rv h' z => ⟨z.1, zIR_S q_h z.2⟩)
set_option maxRecDepth 20000 in
set_option maxHeartbeats 4000000 in
theorem jo_count (zd : Nat) (q_d : 8 ≤ zd) {n : Nat} {P : zSta} {zw : Int} (q_n : n ≤ 600) (q_P : zPu P) (q_zwr : -2147483648 ≤ zw ∧ zw < 2147483648) : zBoth zd am_m_Lp_count am_m_Model_count [(1, .int (iN zw))] n P := by
  refine ⟨(iN (zVcnt P.xN P.xG P.xS P.xT P.xL P.xU P.xV zw)), P, q_P, fun h q_h => ?_, fun h q_h => ?_⟩
  · have q_h0 := q_h
    obtain ⟨q_nm, q_hd, q_c, q_t, q_s, q_i, zs, zk, zb, zt, zj, q_b⟩ := q_h
    have q_b0 := q_b
    obtain ⟨⟨a1, a2, a3, a4, a5⟩, b1, b2, b3, b4, ⟨c1, c2⟩, e1, e2⟩ := q_b
    exact wp_con (jL_count zd (by omega) q_nm q_P.1 q_t.1 q_c.1 q_c.2.1 q_zwr) (fun rv h' z => ⟨z.1, zIL_0 q_h0 z.2⟩)
  · exact wp_con (jR_count zd (by omega) q_h.1 q_P.1 q_h.2.2.2.1.1 q_h.2.2.1.1 q_h.2.2.1.2.1 q_zwr) (fun rv h' z => ⟨z.1, zIR_0 q_h z.2⟩)
