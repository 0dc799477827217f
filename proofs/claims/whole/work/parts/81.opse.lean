/-! ONE CALL on both sides: undo, redo, periods, image, back -/
theorem zJk_same {ks : List Nat} {n : Nat} {h h' : am_H} {N : Int} {G : Int → Int → Int} {S T zs zk zb zt zj zw : Int} (q : zJb n h N G S T zs zk zb zt zj) (qf : am_fr ks h h') (q1 : ∀ c, c ∈ [3, 5, 6, 7, 8, 9, 10, 11, 12, 13, 14, 15, 16, 17, 18, 19, 21, 36, 41] → c ∉ ks) (q2 : h'.1 1 2 = iN zs) (q3 : h'.1 34 2 = iN zw) (q4 : zt ≤ zw ∧ zw ≤ zt + 5000) : zJk (n + 1) h' N G S T := by
  obtain ⟨⟨a1, a2, a3, a4, a5⟩, b1, b2, b3, b4, ⟨c1, c2⟩, e1, e2⟩ := q
  refine ⟨zs, zk, zb, zw, zj, ⟨q2, ?_, ?_, q3, ?_⟩, by omega, by omega, by omega, by omega, ⟨?_, ?_⟩, fun y => ?_, fun y => ?_⟩
  · rw [qf.2 3 (q1 _ (by decide))]; exact a2
  · rw [qf.2 18 (q1 _ (by decide))]; exact a3
  · rw [qf.2 36 (q1 _ (by decide))]; exact a5
  · rw [qf.2 8 (q1 _ (by decide))]; exact c1
  · rw [qf.2 41 (q1 _ (by decide))]; exact c2
  · exact zPlan_f_3 qf (fun c z => q1 c (by revert z; revert c; decide)) (e1 y)
  · exact zBnd_f qf (q1 _ (by decide)) (q1 _ (by decide)) (q1 _ (by decide)) (e2 y)
set_option maxRecDepth 20000 in
set_option maxHeartbeats 4000000 in
theorem jo_undo (zd : Nat) (q_d : 8 ≤ zd) {n : Nat} {P : zSta} (q_n : n ≤ 600) (q_P : zPu P)  : zBoth zd am_m_Lp_undo am_m_Model_undo [] n P := by
  have q_P0 := q_P
  obtain ⟨p_g, p_k, p_u, p_h, ⟨p_l, p_c⟩, p_z, p_m⟩ := q_P
  by_cases y : ¬ P.xU = 0
  · refine ⟨(iN (P.xU - 1)), (zSt8 P.xN (P.xGH (P.xU - 1)) (P.xSH (P.xU - 1)) (P.xTH (P.xU - 1)) P.xB (P.xU - 1) P.xV P.xGH P.xSH P.xTH P.xL P.xF P.xZ P.xY P.xM P.xIG P.xIS P.xIT P.xIB), ⟨p_h.1 _ (by omega) (by omega), p_k, ⟨show 0 ≤ P.xU - 1 by omega, show P.xU - 1 ≤ P.xV by omega, p_u.2.2⟩, ⟨p_h.1, rfl, rfl, rfl⟩, ⟨p_l, p_c⟩, p_z, p_m⟩, fun h q_h => ?_, fun h q_h => ?_⟩
    · obtain ⟨q_nm, q_hd, q_c, q_t, q_s, q_i, q_k⟩ := q_h
      obtain ⟨zs0, zk, zb, zt, zj, q_b⟩ := q_k
      have q_b0 := q_b
      obtain ⟨⟨a1, a2, a3, a4, a5⟩, b1, b2, b3, b4, ⟨c1, c2⟩, e1, e2⟩ := q_b
      refine wp_con (jL_undo zd (by omega) q_c.1 (by omega) a1) (fun rv h' z => ⟨(z.1 y).1, ?_⟩)
      obtain ⟨_, qf, f1, f2, f3, f4, f5, f6⟩ := z.1 y
      have q_N := p_g.1
      refine ⟨⟨?_, ?_, ?_, ?_, ?_, ?_, ?_⟩, zKL_f qf (by decide)⟩
      · refine zNm_w (f2.trans q_nm.1) ?_
        rw [f6]
        refine zRw_cp (zo := 98 * (P.xU - 1)) (by omega) (by omega) q_N.2 (q_c.2.2 (P.xU - 1) (by omega) (by omega) (by omega)) (fun j z1 z2 => ?_)
        rw [zCq_i _ _ (by omega), zCq_o _ _ (by omega)]
        exact congrArg (h.1 26) (by omega)
      · rw [qf.2 24 (by decide)]; exact q_hd
      · refine ⟨f3, f4.trans q_c.2.1, fun k y1 y2 y3 => ?_⟩
        have y2 : k ≤ P.xV := y2
        show zRw (h'.1 26) (98 * k) P.xN (P.xGH k) (P.xSH k) (P.xTH k)
        rw [f5]
        by_cases y4 : k = P.xU
        · rw [y4, p_h.2.1, p_h.2.2.1, p_h.2.2.2]
          refine zRw_cp (zo := 0) (by omega) (by omega) q_N.2 (zRw_n q_nm) (fun j z1 z2 => ?_)
          rw [zCq_i _ _ (by omega)]
          exact congrArg (h.1 2) (by omega)
        · refine zRw_cp (zo := 98 * k) (by omega) (by omega) q_N.2 (q_c.2.2 k (by omega) (by omega) (by omega)) (fun j z1 z2 => ?_)
          rw [zCq_o _ _ (by omega)]
      · rw [qf.2 27 (by decide), qf.2 28 (by decide)]; exact q_t
      · rw [qf.2 33 (by decide), qf.1]; exact q_s
      · rw [qf.2 0 (by decide), qf.2 51 (by decide), qf.2 52 (by decide), qf.2 54 (by decide)]; exact q_i
      · exact zJk_n q_b0 qf (by decide) f1 (by omega)
    · obtain ⟨q_nm, q_hd, ⟨q_u, q_v, q_c⟩, q_t, q_s, q_m, q_i⟩ := q_h
      refine wp_con (jR_undo zd (by omega) q_u (by omega)) (fun rv h' z => ⟨(z.1 y).1, ?_⟩)
      obtain ⟨_, qf, f1, f2, f3⟩ := z.1 y
      have q_N := p_g.1
      refine ⟨⟨?_, ?_, ⟨f2, ?_, ?_⟩, ?_, ?_, ?_⟩, zKR_f qf (by decide)⟩
      · refine zMm_w ((f1 0 (by decide)).trans q_nm.1) ?_
        rw [f3]
        refine zRw_cp (zo := 98 * (P.xU - 1)) (by omega) (by omega) q_N.2 (q_c (P.xU - 1) (by omega) (by omega)) (fun j z1 z2 => ?_)
        rw [zCq_i _ _ (by omega)]
        exact congrArg (h.1 58) (by omega)
      · rw [qf.2 57 (by decide)]; exact q_hd
      · rw [f1 5 (by decide)]; exact q_v
      · rw [qf.2 58 (by decide)]; exact q_c
      · rw [f1 7 (by decide), qf.2 59 (by decide)]; exact q_t
      · rw [qf.2 74 (by decide), qf.1]; exact q_s
      · rw [f1 36 (by decide), qf.2 76 (by decide), qf.2 77 (by decide)]; exact ⟨q_m, q_i⟩
  · refine ⟨(iN (-5)), P, q_P0, fun h q_h => ?_, fun h q_h => ?_⟩
    · have q_h0 := q_h
      obtain ⟨q_nm, q_hd, q_c, q_t, q_s, q_i, q_k⟩ := q_h
      obtain ⟨zs0, zk, zb, zt, zj, q_b⟩ := q_k
      obtain ⟨⟨a1, a2, a3, a4, a5⟩, b1, b2, b3, b4, ⟨c1, c2⟩, e1, e2⟩ := q_b
      exact wp_con (jL_undo zd (by omega) q_c.1 (by omega) a1) (fun rv h' z => ⟨(z.2 y).1, zIL_0 q_h0 (z.2 y).2⟩)
    · have q_h0 := q_h
      obtain ⟨q_nm, q_hd, ⟨q_u, q_v, q_c⟩, q_t, q_s, q_m, q_i⟩ := q_h
      exact wp_con (jR_undo zd (by omega) q_u (by omega)) (fun rv h' z => ⟨(z.2 y).1, zIR_0 q_h0 (z.2 y).2⟩)
set_option maxRecDepth 20000 in
set_option maxHeartbeats 4000000 in
theorem jo_redo (zd : Nat) (q_d : 8 ≤ zd) {n : Nat} {P : zSta} (q_n : n ≤ 600) (q_P : zPu P)  : zBoth zd am_m_Lp_redo am_m_Model_redo [] n P := by
  have q_P0 := q_P
  obtain ⟨p_g, p_k, p_u, p_h, ⟨p_l, p_c⟩, p_z, p_m⟩ := q_P
  by_cases y : ¬ P.xU = P.xV
  · refine ⟨(iN (P.xV - (P.xU + 1))), (zSt8 P.xN (P.xGH (P.xU + 1)) (P.xSH (P.xU + 1)) (P.xTH (P.xU + 1)) P.xB (P.xU + 1) P.xV P.xGH P.xSH P.xTH P.xL P.xF P.xZ P.xY P.xM P.xIG P.xIS P.xIT P.xIB), ⟨p_h.1 _ (by omega) (by omega), p_k, ⟨show 0 ≤ P.xU + 1 by omega, show P.xU + 1 ≤ P.xV by omega, p_u.2.2⟩, ⟨p_h.1, rfl, rfl, rfl⟩, ⟨p_l, p_c⟩, p_z, p_m⟩, fun h q_h => ?_, fun h q_h => ?_⟩
    · obtain ⟨q_nm, q_hd, q_c, q_t, q_s, q_i, q_k⟩ := q_h
      obtain ⟨zs0, zk, zb, zt, zj, q_b⟩ := q_k
      have q_b0 := q_b
      obtain ⟨⟨a1, a2, a3, a4, a5⟩, b1, b2, b3, b4, ⟨c1, c2⟩, e1, e2⟩ := q_b
      refine wp_con (jL_redo zd (by omega) q_c.1 q_c.2.1 (by omega) a1) (fun rv h' z => ⟨(z.1 y).1, ?_⟩)
      obtain ⟨_, qf, f1, f2, f3, f4, f5, f6⟩ := z.1 y
      have q_N := p_g.1
      refine ⟨⟨?_, ?_, ?_, ?_, ?_, ?_, ?_⟩, zKL_f qf (by decide)⟩
      · refine zNm_w (f2.trans q_nm.1) ?_
        rw [f6]
        refine zRw_cp (zo := 98 * (P.xU + 1)) (by omega) (by omega) q_N.2 (q_c.2.2 (P.xU + 1) (by omega) (by omega) (by omega)) (fun j z1 z2 => ?_)
        rw [zCq_i _ _ (by omega)]
        exact congrArg (h.1 26) (by omega)
      · rw [qf.2 24 (by decide)]; exact q_hd
      · refine ⟨f3, f4.trans q_c.2.1, fun k y1 y2 y3 => ?_⟩
        have y2 : k ≤ P.xV := y2
        show zRw (h'.1 26) (98 * k) P.xN (P.xGH k) (P.xSH k) (P.xTH k)
        rw [f5]
        exact q_c.2.2 k y1 y2 (by omega)
      · rw [qf.2 27 (by decide), qf.2 28 (by decide)]; exact q_t
      · rw [qf.2 33 (by decide), qf.1]; exact q_s
      · rw [qf.2 0 (by decide), qf.2 51 (by decide), qf.2 52 (by decide), qf.2 54 (by decide)]; exact q_i
      · exact zJk_n q_b0 qf (by decide) f1 (by omega)
    · obtain ⟨q_nm, q_hd, ⟨q_u, q_v, q_c⟩, q_t, q_s, q_m, q_i⟩ := q_h
      refine wp_con (jR_redo zd (by omega) q_u q_v (by omega)) (fun rv h' z => ⟨(z.1 y).1, ?_⟩)
      obtain ⟨_, qf, f1, f2, f3⟩ := z.1 y
      have q_N := p_g.1
      refine ⟨⟨?_, ?_, ⟨f2, ?_, ?_⟩, ?_, ?_, ?_⟩, zKR_f qf (by decide)⟩
      · refine zMm_w ((f1 0 (by decide)).trans q_nm.1) ?_
        rw [f3]
        refine zRw_cp (zo := 98 * (P.xU + 1)) (by omega) (by omega) q_N.2 (q_c (P.xU + 1) (by omega) (by omega)) (fun j z1 z2 => ?_)
        rw [zCq_i _ _ (by omega)]
        exact congrArg (h.1 58) (by omega)
      · rw [qf.2 57 (by decide)]; exact q_hd
      · rw [f1 5 (by decide)]; exact q_v
      · rw [qf.2 58 (by decide)]; exact q_c
      · rw [f1 7 (by decide), qf.2 59 (by decide)]; exact q_t
      · rw [qf.2 74 (by decide), qf.1]; exact q_s
      · rw [f1 36 (by decide), qf.2 76 (by decide), qf.2 77 (by decide)]; exact ⟨q_m, q_i⟩
  · refine ⟨(iN (-5)), P, q_P0, fun h q_h => ?_, fun h q_h => ?_⟩
    · have q_h0 := q_h
      obtain ⟨q_nm, q_hd, q_c, q_t, q_s, q_i, q_k⟩ := q_h
      obtain ⟨zs0, zk, zb, zt, zj, q_b⟩ := q_k
      obtain ⟨⟨a1, a2, a3, a4, a5⟩, b1, b2, b3, b4, ⟨c1, c2⟩, e1, e2⟩ := q_b
      exact wp_con (jL_redo zd (by omega) q_c.1 q_c.2.1 (by omega) a1) (fun rv h' z => ⟨(z.2 y).1, zIL_0 q_h0 (z.2 y).2⟩)
    · have q_h0 := q_h
      obtain ⟨q_nm, q_hd, ⟨q_u, q_v, q_c⟩, q_t, q_s, q_m, q_i⟩ := q_h
      exact wp_con (jR_redo zd (by omega) q_u q_v (by omega)) (fun rv h' z => ⟨(z.2 y).1, zIR_0 q_h0 (z.2 y).2⟩)
set_option maxRecDepth 20000 in
set_option maxHeartbeats 4000000 in
theorem jo_image (zd : Nat) (q_d : 8 ≤ zd) {n : Nat} {P : zSta} (q_n : n ≤ 600) (q_P : zPu P)  : zBoth zd am_m_Lp_image am_m_Model_image [] n P := by
  have q_P0 := q_P
  obtain ⟨p_g, p_k, p_u, p_h, ⟨p_l, p_c⟩, p_z, p_m⟩ := q_P
  have q_N := p_g.1
  refine ⟨(iN P.xN), (zSt8 P.xN P.xG P.xS P.xT P.xB P.xU P.xV P.xGH P.xSH P.xTH P.xL P.xF P.xZ P.xY (P.xN) (P.xG) (P.xS) (P.xT) (P.xB)), ⟨p_g, p_k, p_u, p_h, ⟨p_l, p_c⟩, p_z, ⟨⟨show 0 ≤ P.xN by omega, q_N.2⟩, fun _ => ⟨p_g, p_k⟩⟩⟩, fun h q_h => ?_, fun h q_h => ?_⟩
  · obtain ⟨q_nm, q_hd, q_c, q_t, q_s, q_i, q_k⟩ := q_h
    obtain ⟨zm, y_m⟩ : ∃ zm : Int, h.1 51 2 = iN zm := ⟨(h.1 51 2).toInt, (iN_self _).symm⟩
    refine wp_con (jL_image zd (by omega) q_nm p_g y_m q_hd) (fun rv h' z => ⟨z.1, ?_⟩)
    obtain ⟨_, qf, f1, f2, f3, f4⟩ := z
    refine ⟨⟨?_, ?_, ?_, ?_, ?_, ?_, ?_⟩, zKL_f qf (by decide)⟩
    · rw [qf.2 1 (by decide), qf.2 2 (by decide)]; exact q_nm
    · rw [qf.2 24 (by decide)]; exact q_hd
    · rw [qf.2 25 (by decide), qf.2 26 (by decide)]; exact q_c
    · rw [qf.2 27 (by decide), qf.2 28 (by decide)]; exact q_t
    · rw [qf.2 33 (by decide), qf.1]; exact q_s
    · exact ⟨f4.trans (congrArg iN (if_neg (show ¬ P.xN = 0 by omega)).symm), fun _ => ⟨f1, f3⟩⟩
    · exact zJk_f (Nat.le_succ n) qf.2 (by decide) q_k
  · obtain ⟨q_nm, q_hd, ⟨q_u, q_v, q_c⟩, q_t, q_s, q_m, q_i⟩ := q_h
    refine wp_con (jR_image zd (by omega) q_nm p_g) (fun rv h' z => ⟨z.1, ?_⟩)
    obtain ⟨_, qf, f1, f2, f3, f4⟩ := z
    refine ⟨⟨?_, ?_, ⟨?_, ?_, ?_⟩, ?_, ?_, ⟨f2, fun _ => ⟨?_, fun p y1 y2 => ?_⟩⟩⟩, zKR_f qf (by decide)⟩
    · exact zMm_g q_nm (f1 0 (by decide)) (qf.2 56 (by decide))
    · rw [qf.2 57 (by decide)]; exact q_hd
    · rw [f1 4 (by decide)]; exact q_u
    · rw [f1 5 (by decide)]; exact q_v
    · rw [qf.2 58 (by decide)]; exact q_c
    · rw [f1 7 (by decide), qf.2 59 (by decide)]; exact q_t
    · rw [qf.2 74 (by decide), qf.1]; exact q_s
    · rw [f3]
      refine zRw_cp (zo := 0) (by omega) (by omega) q_N.2 (zRw_m q_nm) (fun j z1 z2 => ?_)
      rw [zCq_i _ _ (by omega)]
      exact congrArg (h.1 56) (by omega)
    · have y2 : p < P.xN := y2
      rw [f4, zCq_i _ _ (by omega), show 0 + (p.toNat - 0) = p.toNat by omega]; exact q_hd p y1 y2
theorem zHk_pp {N zn : Int} {B : Int → Int} (q : zHk N B) : zHk zn (fun p => if p < min N zn then B p else 0) := by
  refine ⟨fun p y1 y2 => ?_, fun p y1 => ?_⟩
  · show 0 ≤ (if p < min N zn then B p else 0) ∧ (if p < min N zn then B p else 0) ≤ 1584
    by_cases y3 : p < min N zn
    · simp only [if_pos y3]; exact q.1 p y1 (by omega)
    · simp only [if_neg y3]; omega
  · exact if_neg (show ¬ p < min N zn by omega)
set_option maxRecDepth 20000 in
set_option maxHeartbeats 4000000 in
theorem jo_periods (zd : Nat) (q_d : 8 ≤ zd) {n : Nat} {P : zSta} {zn : Int} (q_n : n ≤ 600) (q_P : zPu P) (q_znr : -2147483648 ≤ zn ∧ zn < 2147483648) : zBoth zd am_m_Lp_periods am_m_Model_periods [(1, .int (iN zn))] n P := by
  have q_P0 := q_P
  obtain ⟨p_g, p_k, p_u, p_h, ⟨p_l, p_c⟩, p_z, p_m⟩ := q_P
  have q_N := p_g.1
  by_cases y : (1 ≤ zn ∧ zn ≤ 16 ∧ ¬ zn = P.xN)
  · refine ⟨(iN P.xN), (zSt8 (zn) (zGr P.xG P.xN) (P.xS) (P.xT) ((fun p => if p < min P.xN zn then P.xB p else 0)) (0) (0) (fun _ => zGr P.xG P.xN) (fun _ => P.xS) (fun _ => P.xT) P.xL P.xF P.xZ P.xY P.xM P.xIG P.xIS P.xIT P.xIB), ⟨zGk_rs ⟨y.1, y.2.1⟩ p_g, zHk_pp p_k, ⟨Int.le_refl 0, Int.le_refl 0, (show (0 : Int) ≤ 12 by decide)⟩, ⟨fun k _ _ => zGk_rs ⟨y.1, y.2.1⟩ p_g, rfl, rfl, rfl⟩, ⟨p_l, p_c⟩, p_z, p_m⟩, fun h q_h => ?_, fun h q_h => ?_⟩
    · obtain ⟨q_nm, q_hd, q_c, q_t, q_s, q_i, q_k⟩ := q_h
      obtain ⟨zs0, zk, zb, zt, zj, q_b⟩ := q_k
      have q_b0 := q_b
      obtain ⟨⟨a1, a2, a3, a4, a5⟩, b1, b2, b3, b4, ⟨c1, c2⟩, e1, e2⟩ := q_b
      refine wp_con (jL_periods zd (by omega) q_nm p_g a1 q_hd q_znr) (fun rv h' z => ⟨(z.1 y).1, ?_⟩)
      obtain ⟨_, qf, f1, f2, f3, f5, f6⟩ := z.1 y
      refine ⟨⟨?_, ?_, ?_, ?_, ?_, ?_, ?_⟩, zKL_f qf (by decide)⟩
      · exact f1
      · exact f3
      · exact ⟨f5, f6, fun k y1 y2 y3 => absurd ⟨(by have : k ≤ 0 := y2; omega : k = 0), rfl⟩ y3⟩
      · rw [qf.2 27 (by decide), qf.2 28 (by decide)]; exact q_t
      · rw [qf.2 33 (by decide), qf.1]; exact q_s
      · rw [qf.2 0 (by decide), qf.2 51 (by decide), qf.2 52 (by decide), qf.2 54 (by decide)]; exact q_i
      · exact zJk_n q_b0 qf (by decide) f2 (by omega)
    · obtain ⟨q_nm, q_hd, ⟨q_u, q_v, q_c⟩, q_t, q_s, q_m, q_i⟩ := q_h
      refine wp_con (jR_periods zd (by omega) q_nm p_g q_hd q_znr) (fun rv h' z => ⟨(z.1 y).1, ?_⟩)
      obtain ⟨_, qf, f1, g1, f3, f4, f5, f7⟩ := z.1 y
      have q_n : 1 ≤ zn ∧ zn ≤ 16 := ⟨y.1, y.2.1⟩
      refine ⟨⟨g1, f3, ⟨f4, f5, fun k y1 y2 => ?_⟩, ?_, ?_, ?_⟩, zKR_f qf (by decide)⟩
      · show zRw (h'.1 58) (98 * k) zn (zGr P.xG P.xN) P.xS P.xT
        have y5 : k = 0 := by have : k ≤ 0 := y2; omega
        rw [y5, f7]
        refine zRw_cp (zo := 0) (by omega) (by omega) q_n.2 (zRw_m g1) (fun j z1 z2 => ?_)
        rw [zCq_i _ _ (by omega)]
        exact congrArg (h'.1 56) (by omega)
      · rw [f1 7 (by decide) (by decide) (by decide), qf.2 59 (by decide)]; exact q_t
      · rw [qf.2 74 (by decide), qf.1]; exact q_s
      · rw [f1 36 (by decide) (by decide) (by decide), qf.2 76 (by decide), qf.2 77 (by decide)]; exact ⟨q_m, q_i⟩
  · refine ⟨(iN (if zn = P.xN then P.xN else -1)), P, q_P0, fun h q_h => ?_, fun h q_h => ?_⟩
    · have q_h0 := q_h
      obtain ⟨q_nm, q_hd, q_c, q_t, q_s, q_i, q_k⟩ := q_h
      obtain ⟨zs0, zk, zb, zt, zj, q_b⟩ := q_k
      obtain ⟨⟨a1, a2, a3, a4, a5⟩, b1, b2, b3, b4, ⟨c1, c2⟩, e1, e2⟩ := q_b
      exact wp_con (jL_periods zd (by omega) q_nm p_g a1 q_hd q_znr) (fun rv h' z => ⟨(z.2 y).1, zIL_0 q_h0 (z.2 y).2⟩)
    · have q_h0 := q_h
      obtain ⟨q_nm, q_hd, ⟨q_u, q_v, q_c⟩, q_t, q_s, q_m, q_i⟩ := q_h
      refine wp_con (jR_periods zd (by omega) q_nm p_g q_hd q_znr) (fun rv h' z => ⟨(z.2 y).1, ?_⟩)
      rcases (z.2 y).2 with e | ⟨qf, f1, f2, f3⟩
      · exact zIR_0 q_h0 e
      · refine ⟨⟨f2, f3, ⟨?_, ?_, ?_⟩, ?_, ?_, ?_⟩, zKR_f qf (by decide)⟩
        · rw [f1]; exact q_u
        · rw [f1]; exact q_v
        · rw [qf.2 58 (by decide)]; exact q_c
        · rw [f1, qf.2 59 (by decide)]; exact q_t
        · rw [qf.2 74 (by decide), qf.1]; exact q_s
        · rw [f1, qf.2 76 (by decide), qf.2 77 (by decide)]; exact ⟨q_m, q_i⟩
set_option maxRecDepth 20000 in
set_option maxHeartbeats 4000000 in
theorem jo_back (zd : Nat) (q_d : 8 ≤ zd) {n : Nat} {P : zSta} (q_n : n ≤ 600) (q_P : zPu P)  : zBoth zd am_m_Lp_back am_m_Model_back [] n P := by
  have q_P0 := q_P
  obtain ⟨p_g, p_k, p_u, p_h, ⟨p_l, p_c⟩, p_z, p_m⟩ := q_P
  have q_N := p_g.1
  by_cases y : ¬ P.xM = 0
  · refine ⟨(iN P.xM), (zSt8 (P.xM) (P.xIG) (P.xIS) (P.xIT) (P.xIB) (0) (0) (fun _ => P.xIG) (fun _ => P.xIS) (fun _ => P.xIT) P.xL P.xF P.xZ P.xY P.xM P.xIG P.xIS P.xIT P.xIB), ⟨(p_m.2 y).1, (p_m.2 y).2, ⟨Int.le_refl 0, Int.le_refl 0, (show (0 : Int) ≤ 12 by decide)⟩, ⟨fun k _ _ => (p_m.2 y).1, rfl, rfl, rfl⟩, ⟨p_l, p_c⟩, p_z, p_m⟩, fun h q_h => ?_, fun h q_h => ?_⟩
    · obtain ⟨q_nm, q_hd, q_c, q_t, q_s, q_i, q_k⟩ := q_h
      obtain ⟨zs0, zk, zb, zt, zj, q_b⟩ := q_k
      have q_b0 := q_b
      obtain ⟨⟨a1, a2, a3, a4, a5⟩, b1, b2, b3, b4, ⟨c1, c2⟩, e1, e2⟩ := q_b
      refine wp_con (jL_back zd (by omega) (q_i.2 y).1 (p_m.2 y).1 (q_i.1.trans (congrArg iN (if_neg y))) a1 (q_i.2 y).2) (fun rv h' z => ⟨z.1, ?_⟩)
      obtain ⟨_, qf, f1, f2, f3, f5, f6⟩ := z
      refine ⟨⟨?_, ?_, ?_, ?_, ?_, ?_, ?_⟩, zKL_f qf (by decide)⟩
      · exact f1
      · exact f3
      · exact ⟨f5, f6, fun k y1 y2 y3 => absurd ⟨(by have : k ≤ 0 := y2; omega : k = 0), rfl⟩ y3⟩
      · rw [qf.2 27 (by decide), qf.2 28 (by decide)]; exact q_t
      · rw [qf.2 33 (by decide), qf.1]; exact q_s
      · rw [qf.2 0 (by decide), qf.2 51 (by decide), qf.2 52 (by decide), qf.2 54 (by decide)]; exact q_i
      · exact zJk_n q_b0 qf (by decide) f2 (by omega)
    · obtain ⟨q_nm, q_hd, ⟨q_u, q_v, q_c⟩, q_t, q_s, q_m, q_i⟩ := q_h
      refine wp_con (jR_back zd (by omega) q_m p_m.1) (fun rv h' z => ⟨(z.1 y).1, ?_⟩)
      obtain ⟨_, qf, f1, f0, f4, f5, f6, f8, f7⟩ := z.1 y
      have q_n := ((p_m.2 y).1).1
      have g1 : zMm (h'.1 55) (h'.1 56) P.xM P.xIG P.xIS P.xIT := by
        refine zMm_w f0 ?_
        rw [f6]
        refine zRw_cp (zo := 0) (by omega) (by omega) q_n.2 (q_i y).1 (fun j z1 z2 => ?_)
        rw [zCq_i _ _ (by omega)]
        exact congrArg (h.1 76) (by omega)
      refine ⟨⟨g1, fun p y1 y2 => ?_, ⟨f4, f5, fun k y1 y2 => ?_⟩, ?_, ?_, ?_⟩, zKR_f qf (by decide)⟩
      · have y2 : p < P.xM := y2
        rw [f8, zCq_i _ _ (by omega), show 0 + (p.toNat - 0) = p.toNat by omega]; exact (q_i y).2 p y1 y2
      · show zRw (h'.1 58) (98 * k) P.xM P.xIG P.xIS P.xIT
        have y5 : k = 0 := by have : k ≤ 0 := y2; omega
        rw [y5, f7]
        refine zRw_cp (zo := 0) (by omega) (by omega) q_n.2 (zRw_m g1) (fun j z1 z2 => ?_)
        rw [zCq_i _ _ (by omega)]
        exact congrArg (h'.1 56) (by omega)
      · rw [f1 7 (by decide) (by decide) (by decide), qf.2 59 (by decide)]; exact q_t
      · rw [qf.2 74 (by decide), qf.1]; exact q_s
      · rw [f1 36 (by decide) (by decide) (by decide), qf.2 76 (by decide), qf.2 77 (by decide)]; exact ⟨q_m, q_i⟩
  · have y := Classical.not_not.mp y
    refine ⟨(iN (-5)), P, q_P0, fun h q_h => ?_, fun h q_h => ?_⟩
    · exact wp_con (jL_back0 zd (by omega) (q_h.2.2.2.2.2.1.1.trans (congrArg iN (if_pos y)))) (fun rv h' z => ⟨z.1, zIL_0 q_h z.2⟩)
    · have q_h0 := q_h
      obtain ⟨q_nm, q_hd, ⟨q_u, q_v, q_c⟩, q_t, q_s, q_m, q_i⟩ := q_h
      exact wp_con (jR_back zd (by omega) q_m p_m.1) (fun rv h' z => ⟨(z.2 (fun z => z y)).1, zIR_0 q_h0 (z.2 (fun z => z y)).2⟩)
