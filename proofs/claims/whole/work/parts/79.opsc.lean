/-! ONE CALL on both sides: by hand as planned, the shelves -/
theorem zJb_G {ks : List Nat} {n : Nat} {h h' : am_H} {N : Int} {G : Int → Int → Int} {S T zs zk zb zt zj : Int} (q_N : 1 ≤ N) (q : zJb n h N G S T zs zk zb zt zj) (qf : am_fr ks h h') (q1 : ∀ c, c ∈ [1, 18, 19, 21, 34, 36, 41] → c ∉ ks) (q3 : h'.1 3 1 = iN zs) (qp : zPlan_3 h' N G T) : zJk (n + 1) h' N G S T := by
  obtain ⟨⟨a1, a2, a3, a4, a5⟩, b1, b2, b3, b4, ⟨c1, c2⟩, e1, e2⟩ := q
  refine ⟨zs, zs, zb, zt, zj, ⟨?_, q3, ?_, ?_, ?_⟩, by omega, by omega, b3, by omega, ⟨?_, ?_⟩, fun _ => qp, fun y => ?_⟩
  · rw [qf.2 1 (q1 _ (by decide))]; exact a1
  · rw [qf.2 18 (q1 _ (by decide))]; exact a3
  · rw [qf.2 34 (q1 _ (by decide))]; exact a4
  · rw [qf.2 36 (q1 _ (by decide))]; exact a5
  · exact qp.1.1 0 (by omega) (by omega)
  · rw [qf.2 41 (q1 _ (by decide))]; exact c2
  · exact zBnd_f qf (q1 _ (by decide)) (q1 _ (by decide)) (q1 _ (by decide)) (e2 y)
theorem zJb_2 {ks : List Nat} {n : Nat} {h h' : am_H} {N : Int} {G : Int → Int → Int} {S T zs zk zb zt zj : Int} (q_N : 1 ≤ N) (q : zJb n h N G S T zs zk zb zt zj) (qf : am_fr ks h h') (q1 : ∀ c, c ∈ [1, 34, 36, 41] → c ∉ ks) (q3 : h'.1 3 1 = iN zs) (qp : zPlan_3 h' N G T) (q4 : h'.1 18 0 = iN zs) (qb : zBnd h' N G S T) : zJk (n + 1) h' N G S T := by
  obtain ⟨⟨a1, a2, a3, a4, a5⟩, b1, b2, b3, b4, ⟨c1, c2⟩, e1, e2⟩ := q
  refine ⟨zs, zs, zs, zt, zj, ⟨?_, q3, q4, ?_, ?_⟩, by omega, by omega, by omega, by omega, ⟨?_, ?_⟩, fun _ => qp, fun _ => qb⟩
  · rw [qf.2 1 (q1 _ (by decide))]; exact a1
  · rw [qf.2 34 (q1 _ (by decide))]; exact a4
  · rw [qf.2 36 (q1 _ (by decide))]; exact a5
  · exact qp.1.1 0 (by omega) (by omega)
  · rw [qf.2 41 (q1 _ (by decide))]; exact c2
theorem zIR_57 {P : zSta} {h h' zg1 : am_H} {zf : Nat → Int32} (q : zIR P h) (q1 : zRS h zg1) (q2 : am_row zg1 57 zf = h') (B : Int → Int) (q3 : zHd zf B P.xN) : zIR (zSt8 P.xN P.xG P.xS P.xT (B) P.xU P.xV P.xGH P.xSH P.xTH P.xL P.xF P.xZ P.xY P.xM P.xIG P.xIS P.xIT P.xIB) h' ∧ zKR h h' := by
  obtain ⟨r1, r2⟩ := zIR_S q q1
  obtain ⟨q_nm, q_hd, ⟨q_u, q_v, q_c⟩, q_t, q_s, q_m, q_i⟩ := r1
  have qf : am_fr [57] zg1 h' := by rw [← q2]; exact am_fr_r (am_fr_0 _ _) (by decide) _
  refine ⟨⟨?_, ?_, ?_, ?_, ?_, ?_⟩, zKR_t r2 (zKR_f qf (by decide))⟩
  · rw [qf.2 55 (by decide), qf.2 56 (by decide)]; exact q_nm
  · rw [← q2, am_row_s]; exact q3
  · rw [qf.2 55 (by decide), qf.2 58 (by decide)]; exact ⟨q_u, q_v, q_c⟩
  · rw [qf.2 55 (by decide), qf.2 59 (by decide)]; exact q_t
  · rw [qf.2 74 (by decide), qf.1]; exact q_s
  · rw [qf.2 55 (by decide), qf.2 76 (by decide), qf.2 77 (by decide)]; exact ⟨q_m, q_i⟩
set_option maxRecDepth 20000 in
set_option maxHeartbeats 4000000 in
theorem jo_handAs (zd : Nat) (q_d : 8 ≤ zd) {n : Nat} {P : zSta} {zw : Int} (q_n : n ≤ 600) (q_P : zPu P) (q_zwr : -2147483648 ≤ zw ∧ zw < 2147483648) : zBoth zd am_m_Lp_handAs am_m_Model_handAs [(1, .int (iN zw))] n P := by
  have q_P0 := q_P
  obtain ⟨p_g, p_k, p_u, p_h, ⟨p_l, p_c⟩, p_z, p_m⟩ := q_P
  have y_D : 0 ≤ zD P.xG 0 (P.xN - 1) := (zD_rg p_g (by omega) (by have := p_g.1; omega) (by omega)).1
  by_cases y0 : zw = 0
  · subst y0
    · refine ⟨(iN (zSi (zMB P.xG P.xT P.xN) P.xN)), (zSt8 P.xN P.xG P.xS P.xT (zMB P.xG P.xT P.xN) P.xU P.xV P.xGH P.xSH P.xTH P.xL P.xF P.xZ P.xY P.xM P.xIG P.xIS P.xIT P.xIB), ⟨p_g, zMB_hk p_g, p_u, p_h, ⟨p_l, p_c⟩, p_z, p_m⟩, fun h q_h => ?_, fun h q_h => ?_⟩
      · obtain ⟨q_nm, q_hd, q_c, q_t, q_s, q_i, q_k⟩ := q_h
        obtain ⟨zs, zk, zb, zt, zj, q_b⟩ := q_k
        have q_b0 := q_b
        obtain ⟨⟨a1, a2, a3, a4, a5⟩, b1, b2, b3, b4, ⟨c1, c2⟩, e1, e2⟩ := q_b
        refine wp_con (jL_handAs0 zd (by omega) q_nm p_g c1 a1 a2 (by omega) e1 q_hd p_k) (fun rv h' z => ⟨z.1, ?_⟩)
        obtain ⟨_, qf, f1, f2, f3⟩ := z
        refine ⟨⟨?_, ?_, ?_, ?_, ?_, ?_, ?_⟩, zKL_f qf (by decide)⟩
        · rw [qf.2 1 (by decide), qf.2 2 (by decide)]; exact q_nm
        · exact f3
        · rw [qf.2 25 (by decide), qf.2 26 (by decide)]; exact q_c
        · rw [qf.2 27 (by decide), qf.2 28 (by decide)]; exact q_t
        · rw [qf.2 33 (by decide), qf.1]; exact q_s
        · rw [qf.2 0 (by decide), qf.2 51 (by decide), qf.2 52 (by decide), qf.2 54 (by decide)]; exact q_i
        · exact zJb_G p_g.1.1 q_b0 qf (by decide) f1 f2
      · refine wp_con (jR_handAs0 zd (by omega) q_h.1 p_g) (fun rv h' z => ⟨z.1, ?_⟩)
        obtain ⟨_, zg1, f1, zf, f2, f3⟩ := z
        exact zIR_57 q_h f1 f2 _ f3
  by_cases y2 : zw = 2
  · subst y2
    · refine ⟨(iN (zSi ((fun _ => 0)) P.xN)), (zSt8 P.xN P.xG P.xS P.xT ((fun _ => 0)) P.xU P.xV P.xGH P.xSH P.xTH P.xL P.xF P.xZ P.xY P.xM P.xIG P.xIS P.xIT P.xIB), ⟨p_g, ⟨fun _ _ _ => ⟨Int.le_refl 0, (show (0 : Int) ≤ 1584 by decide)⟩, fun _ _ => rfl⟩, p_u, p_h, ⟨p_l, p_c⟩, p_z, p_m⟩, fun h q_h => ?_, fun h q_h => ?_⟩
      · obtain ⟨q_nm, q_hd, q_c, q_t, q_s, q_i, q_k⟩ := q_h
        obtain ⟨zs, zk, zb, zt, zj, q_b⟩ := q_k
        have q_b0 := q_b
        obtain ⟨⟨a1, a2, a3, a4, a5⟩, b1, b2, b3, b4, ⟨c1, c2⟩, e1, e2⟩ := q_b
        refine wp_con (jL_handAs2 zd (by omega) q_nm p_g c1 a1 a2 (by omega) e1 q_hd p_k) (fun rv h' z => ⟨z.1, ?_⟩)
        obtain ⟨_, qf, f1, f2, f3⟩ := z
        refine ⟨⟨?_, ?_, ?_, ?_, ?_, ?_, ?_⟩, zKL_f qf (by decide)⟩
        · rw [qf.2 1 (by decide), qf.2 2 (by decide)]; exact q_nm
        · exact f3
        · rw [qf.2 25 (by decide), qf.2 26 (by decide)]; exact q_c
        · rw [qf.2 27 (by decide), qf.2 28 (by decide)]; exact q_t
        · rw [qf.2 33 (by decide), qf.1]; exact q_s
        · rw [qf.2 0 (by decide), qf.2 51 (by decide), qf.2 52 (by decide), qf.2 54 (by decide)]; exact q_i
        · exact zJb_G p_g.1.1 q_b0 qf (by decide) f1 f2
      · refine wp_con (jR_handAs2 zd (by omega) q_h.1 p_g) (fun rv h' z => ⟨z.1, ?_⟩)
        obtain ⟨_, zg1, f1, zf, f2, f3⟩ := z
        exact zIR_57 q_h f1 f2 _ f3
  by_cases y1 : zw = 1
  · subst y1
    by_cases y : zBst P.xN P.xG P.xS P.xT = 0
    · refine ⟨(iN (zSi (zBm P.xN P.xG P.xS P.xT (zD P.xG 0 (P.xN - 1))) P.xN)), (zSt8 P.xN P.xG P.xS P.xT (zBm P.xN P.xG P.xS P.xT (zD P.xG 0 (P.xN - 1))) P.xU P.xV P.xGH P.xSH P.xTH P.xL P.xF P.xZ P.xY P.xM P.xIG P.xIS P.xIT P.xIB), ⟨p_g, zBm_hk p_g ⟨y_D, (zBst_0 y).1⟩ (zBst_0 y).2, p_u, p_h, ⟨p_l, p_c⟩, p_z, p_m⟩, fun h q_h => ?_, fun h q_h => ?_⟩
      · obtain ⟨q_nm, q_hd, q_c, q_t, q_s, q_i, q_k⟩ := q_h
        obtain ⟨zs, zk, zb, zt, zj, q_b⟩ := q_k
        have q_b0 := q_b
        obtain ⟨⟨a1, a2, a3, a4, a5⟩, b1, b2, b3, b4, ⟨c1, c2⟩, e1, e2⟩ := q_b
        refine wp_con (jL_handAs1 zd (by omega) q_nm p_g c1 a1 a2 (by omega) e1 q_hd p_k a3 (by omega) e2) (fun rv h' z => ⟨(z.1 y).1, ?_⟩)
        obtain ⟨_, qf, f1, f2, f4, f5, f3⟩ := z.1 y
        refine ⟨⟨?_, ?_, ?_, ?_, ?_, ?_, ?_⟩, zKL_f qf (by decide)⟩
        · rw [qf.2 1 (by decide), qf.2 2 (by decide)]; exact q_nm
        · exact f3
        · rw [qf.2 25 (by decide), qf.2 26 (by decide)]; exact q_c
        · rw [qf.2 27 (by decide), qf.2 28 (by decide)]; exact q_t
        · rw [qf.2 33 (by decide), qf.1]; exact q_s
        · rw [qf.2 0 (by decide), qf.2 51 (by decide), qf.2 52 (by decide), qf.2 54 (by decide)]; exact q_i
        · exact zJb_2 p_g.1.1 q_b0 qf (by decide) f1 f2 f4 f5
      · refine wp_con (jR_handAs1 zd (by omega) q_h.1 p_g) (fun rv h' z => ⟨(z.1 y).1, ?_⟩)
        obtain ⟨_, zg1, f1, zf, f2, f3⟩ := z.1 y
        exact zIR_57 q_h f1 f2 _ f3
    · refine ⟨(iN (zBst P.xN P.xG P.xS P.xT)), P, q_P0, fun h q_h => ?_, fun h q_h => ?_⟩
      · have q_h0 := q_h
        obtain ⟨q_nm, q_hd, q_c, q_t, q_s, q_i, q_k⟩ := q_h
        obtain ⟨zs, zk, zb, zt, zj, q_b⟩ := q_k
        have q_b0 := q_b
        obtain ⟨⟨a1, a2, a3, a4, a5⟩, b1, b2, b3, b4, ⟨c1, c2⟩, e1, e2⟩ := q_b
        exact wp_con (jL_handAs1 zd (by omega) q_nm p_g c1 a1 a2 (by omega) e1 q_hd p_k a3 (by omega) e2) (fun rv h' z => ⟨(z.2 y).1, zIL_B q_h0 q_b0 (Or.inr (z.2 y).2)⟩)
      · exact wp_con (jR_handAs1 zd (by omega) q_h.1 p_g) (fun rv h' z => ⟨(z.2 y).1, zIR_S q_h (z.2 y).2⟩)
  refine ⟨(iN (-1)), P, q_P0, fun h q_h => ?_, fun h q_h => ?_⟩
  · exact wp_con (jL_handAsx zd (by omega) q_zwr (by omega)) (fun rv h' z => ⟨z.1, zIL_0 q_h z.2⟩)
  · exact wp_con (jR_handAsx zd (by omega) q_zwr (by omega)) (fun rv h' z => ⟨z.1, zIR_0 q_h z.2⟩)
set_option maxRecDepth 20000 in
set_option maxHeartbeats 4000000 in
theorem jo_row (zd : Nat) (q_d : 8 ≤ zd) {n : Nat} {P : zSta} {zs zn : Int} (q_n : n ≤ 600) (q_P : zPu P) (q_zsr : -2147483648 ≤ zs ∧ zs < 2147483648) (q_znr : -2147483648 ≤ zn ∧ zn < 2147483648) : zBoth zd am_m_Lp_row am_m_Model_row [(1, .int (iN zs)), (2, .int (iN zn))] n P := by
  have q_P0 := q_P
  obtain ⟨p_g, p_k, p_u, p_h, ⟨p_l, p_c⟩, p_z, p_m⟩ := q_P
  by_cases y : (0 ≤ zs ∧ zs < 4 ∧ 0 ≤ zn ∧ zn ≤ 20)
  · refine ⟨(iN 1), (zSt8 P.xN P.xG P.xS P.xT P.xB P.xU P.xV P.xGH P.xSH P.xTH P.xL P.xF (zIp P.xZ zs zn) (fun j => if 20 * zs ≤ j ∧ j < 20 * zs + 20 then 0 else P.xY j) P.xM P.xIG P.xIS P.xIT P.xIB), ⟨p_g, p_k, p_u, p_h, ⟨p_l, p_c⟩, fun k y1 y2 => ?_, p_m⟩, fun h q_h => ?_, fun h q_h => ?_⟩
    · show -1 ≤ (if k = zs then zn else P.xZ k) ∧ (if k = zs then zn else P.xZ k) ≤ 20
      by_cases y3 : k = zs
      · rw [if_pos y3]; omega
      · rw [if_neg y3]; exact p_z k y1 y2
    · obtain ⟨q_nm, q_hd, q_c, q_t, q_s, q_i, q_k⟩ := q_h
      refine wp_con (jL_row zd (by omega) q_zsr q_znr) (fun rv h' z => ⟨(z.1 y).1, ?_⟩)
      obtain ⟨_, z2, z3⟩ := z.1 y
      have qe : ∀ c, c ∉ [33] → h'.1 c = h.1 c := fun c y => by rw [z2.1]; exact am_wr_ne (fun z => y (by rw [z]; decide))
      have qf : ∀ c, c ≠ 33 → h'.1 c = h.1 c := fun c y => by rw [z2.1]; exact am_wr_ne y
      refine ⟨⟨?_, ?_, ?_, ?_, ?_, ?_, ?_⟩, fun c y1 => ⟨qf c (by omega), z2.2 c (by omega)⟩⟩
      · rw [qf 1 (by decide), qf 2 (by decide)]; exact q_nm
      · rw [qf 24 (by decide)]; exact q_hd
      · rw [qf 25 (by decide), qf 26 (by decide)]; exact q_c
      · rw [qf 27 (by decide), qf 28 (by decide)]; exact q_t
      · refine ⟨fun k y1 y2 => ?_, fun k i y1 y2 y3 y4 => ?_⟩
        · rw [z2.1]
          show _ = iN (if k = zs then zn else P.xZ k)
          by_cases y5 : k = zs
          · rw [y5, if_pos rfl, am_wr_at]
          · rw [if_neg y5, am_wr_no (by omega)]; exact q_s.1 k y1 y2
        · show _ = (if 20 * zs ≤ 20 * k + i ∧ 20 * k + i < 20 * zs + 20 then 0 else P.xY (20 * k + i))
          have y4 : i < (if k = zs then zn else P.xZ k) := y4
          have y7 := p_z k y1 y2
          rw [z3]
          by_cases y5 : k = zs
          · rw [if_pos y5] at y4
            rw [if_pos (by omega), if_pos (by omega)]
          · rw [if_neg y5] at y4
            rw [if_neg (by omega), if_neg (by omega)]; exact q_s.2 k i y1 y2 y3 y4
      · rw [qf 0 (by decide), qf 51 (by decide), qf 52 (by decide), qf 54 (by decide)]; exact q_i
      · exact zJk_f (Nat.le_succ n) qe (by decide) q_k
    · obtain ⟨q_nm, q_hd, ⟨q_u, q_v, q_c⟩, q_t, q_s, q_m, q_i⟩ := q_h
      refine wp_con (jR_row zd (by omega) q_zsr q_znr) (fun rv h' z => ⟨(z.1 y).1, ?_⟩)
      obtain ⟨_, z2, z3⟩ := z.1 y
      have qf : ∀ c, c ≠ 74 → h'.1 c = h.1 c := fun c y => by rw [z2.1]; exact am_wr_ne y
      refine ⟨⟨?_, ?_, ?_, ?_, ?_, ?_⟩, ⟨fun c y1 => qf c (fun z => y1 (by rw [z]; decide)), fun c y1 => z2.2 c (by omega)⟩⟩
      · rw [qf 55 (by decide), qf 56 (by decide)]; exact q_nm
      · rw [qf 57 (by decide)]; exact q_hd
      · rw [qf 55 (by decide), qf 58 (by decide)]; exact ⟨q_u, q_v, q_c⟩
      · rw [qf 55 (by decide), qf 59 (by decide)]; exact q_t
      · refine ⟨fun k y1 y2 => ?_, fun k i y1 y2 y3 y4 => ?_⟩
        · rw [z2.1]
          show _ = iN (if k = zs then zn else P.xZ k)
          by_cases y5 : k = zs
          · rw [y5, if_pos rfl, am_wr_at]
          · rw [if_neg y5, am_wr_no (by omega)]; exact q_s.1 k y1 y2
        · show _ = (if 20 * zs ≤ 20 * k + i ∧ 20 * k + i < 20 * zs + 20 then 0 else P.xY (20 * k + i))
          have y4 : i < (if k = zs then zn else P.xZ k) := y4
          have y7 := p_z k y1 y2
          rw [z3]
          by_cases y5 : k = zs
          · rw [if_pos y5] at y4
            rw [if_pos (by omega), if_pos (by omega)]
          · rw [if_neg y5] at y4
            rw [if_neg (by omega), if_neg (by omega)]; exact q_s.2 k i y1 y2 y3 y4
      · rw [qf 55 (by decide), qf 76 (by decide), qf 77 (by decide)]; exact ⟨q_m, q_i⟩
  · refine ⟨(iN (if ¬ (0 ≤ zs ∧ zs < 4) ∨ 20 < zn then -1 else -14)), P, q_P0, fun h q_h => ?_, fun h q_h => ?_⟩
    · exact wp_con (jL_row zd (by omega) q_zsr q_znr) (fun rv h' z => ⟨(z.2 y).1, zIL_0 q_h (z.2 y).2⟩)
    · exact wp_con (jR_row zd (by omega) q_zsr q_znr) (fun rv h' z => ⟨(z.2 y).1, zIR_0 q_h (z.2 y).2⟩)
set_option maxRecDepth 20000 in
set_option maxHeartbeats 4000000 in
theorem jo_put (zd : Nat) (q_d : 8 ≤ zd) {n : Nat} {P : zSta} {zs zi : Int} {zx : Int64} (q_n : n ≤ 600) (q_P : zPu P) (q_zsr : -2147483648 ≤ zs ∧ zs < 2147483648) (q_zir : -2147483648 ≤ zi ∧ zi < 2147483648) : zBoth zd am_m_Lp_put am_m_Model_put [(1, .int (iN zs)), (2, .int (iN zi)), (3, .long zx)] n P := by
  have q_P0 := q_P
  obtain ⟨p_g, p_k, p_u, p_h, ⟨p_l, p_c⟩, p_z, p_m⟩ := q_P
  by_cases y : (0 ≤ zs ∧ zs < 4 ∧ 0 ≤ zi ∧ zi < P.xZ zs)
  · refine ⟨(iN 1), (zSt8 P.xN P.xG P.xS P.xT P.xB P.xU P.xV P.xGH P.xSH P.xTH P.xL P.xF P.xZ (fun j => if j = 20 * zs + zi then zx else P.xY j) P.xM P.xIG P.xIS P.xIT P.xIB), q_P0, fun h q_h => ?_, fun h q_h => ?_⟩
    · obtain ⟨q_nm, q_hd, q_c, q_t, q_s, q_i, q_k⟩ := q_h
      refine wp_con (jL_put zd (by omega) (fun k y1 y2 => ⟨q_s.1 k y1 y2, p_z k y1 y2⟩) q_zsr q_zir) (fun rv h' z => ⟨(z.1 y).1, ?_⟩)
      have z2 := (z.1 y).2
      have qf : ∀ c, h'.1 c = h.1 c := fun c => by rw [← z2]; rfl
      refine ⟨⟨?_, ?_, ?_, ?_, ?_, ?_, ?_⟩, fun c y1 => ⟨qf c, by rw [← z2]; exact am_wl_ne (by omega)⟩⟩
      · rw [qf 1, qf 2]; exact q_nm
      · rw [qf 24]; exact q_hd
      · rw [qf 25, qf 26]; exact q_c
      · rw [qf 27, qf 28]; exact q_t
      · refine ⟨by rw [← z2]; exact q_s.1, fun k i y1 y2 y3 y4 => ?_⟩
        show _ = (if 20 * k + i = 20 * zs + zi then zx else P.xY (20 * k + i))
        rw [← z2]
        by_cases y5 : 20 * k + i = 20 * zs + zi
        · rw [if_pos y5, y5, am_wl_at]
        · have y6 : i < P.xZ k := y4
          have y7 := p_z k y1 y2
          have y8 := p_z zs y.1 y.2.1
          rw [if_neg y5, am_wl_no _ _ _ (by omega)]; exact q_s.2 k i y1 y2 y3 y4
      · rw [qf 0, qf 51, qf 52, qf 54]; exact q_i
      · exact zJk_f (ks := []) (Nat.le_succ n) (fun c _ => qf c) (fun _ _ z => by cases z) q_k
    · obtain ⟨q_nm, q_hd, ⟨q_u, q_v, q_c⟩, q_t, q_s, q_m, q_i⟩ := q_h
      refine wp_con (jR_put zd (by omega) (fun k y1 y2 => ⟨q_s.1 k y1 y2, p_z k y1 y2⟩) q_zsr q_zir) (fun rv h' z => ⟨(z.1 y).1, ?_⟩)
      have z2 := (z.1 y).2
      have qf : ∀ c, h'.1 c = h.1 c := fun c => by rw [← z2]; rfl
      refine ⟨⟨?_, ?_, ?_, ?_, ?_, ?_⟩, ⟨fun c _ => qf c, fun c y1 => by rw [← z2]; exact am_wl_ne (by omega)⟩⟩
      · rw [qf 55, qf 56]; exact q_nm
      · rw [qf 57]; exact q_hd
      · rw [qf 55, qf 58]; exact ⟨q_u, q_v, q_c⟩
      · rw [qf 55, qf 59]; exact q_t
      · refine ⟨by rw [← z2]; exact q_s.1, fun k i y1 y2 y3 y4 => ?_⟩
        show _ = (if 20 * k + i = 20 * zs + zi then zx else P.xY (20 * k + i))
        rw [← z2]
        by_cases y5 : 20 * k + i = 20 * zs + zi
        · rw [if_pos y5, y5, am_wl_at]
        · have y6 : i < P.xZ k := y4
          have y7 := p_z k y1 y2
          have y8 := p_z zs y.1 y.2.1
          rw [if_neg y5, am_wl_no _ _ _ (by omega)]; exact q_s.2 k i y1 y2 y3 y4
      · rw [qf 55, qf 76, qf 77]; exact ⟨q_m, q_i⟩
  · refine ⟨(iN (if ¬ (0 ≤ zs ∧ zs < 4) then -1 else if P.xZ zs < 0 then -11 else -13)), P, q_P0, fun h q_h => ?_, fun h q_h => ?_⟩
    · exact wp_con (jL_put zd (by omega) (fun k y1 y2 => ⟨q_h.2.2.2.2.1.1 k y1 y2, p_z k y1 y2⟩) q_zsr q_zir) (fun rv h' z => ⟨(z.2 y).1, zIL_0 q_h (z.2 y).2⟩)
    · exact wp_con (jR_put zd (by omega) (fun k y1 y2 => ⟨q_h.2.2.2.2.1.1 k y1 y2, p_z k y1 y2⟩) q_zsr q_zir) (fun rv h' z => ⟨(z.2 y).1, zIR_0 q_h (z.2 y).2⟩)
set_option maxRecDepth 20000 in
set_option maxHeartbeats 4000000 in
theorem jo_get (zd : Nat) (q_d : 8 ≤ zd) {n : Nat} {P : zSta} {zs zi : Int} (q_n : n ≤ 600) (q_P : zPu P) (q_zsr : -2147483648 ≤ zs ∧ zs < 2147483648) (q_zir : -2147483648 ≤ zi ∧ zi < 2147483648) : zBotJ zd am_m_Lp_get am_m_Model_get [(1, .int (iN zs)), (2, .int (iN zi))] n P := by
  have q_P0 := q_P
  obtain ⟨p_g, p_k, p_u, p_h, ⟨p_l, p_c⟩, p_z, p_m⟩ := q_P
  refine ⟨(if (0 ≤ zs ∧ zs < 4 ∧ 0 ≤ zi ∧ zi < P.xZ zs) then P.xY (20 * zs + zi) else (-9223372036854775808 : Int64)), P, q_P0, fun h q_h => ?_, fun h q_h => ?_⟩
  · refine wp_con (jL_get zd (by omega) (fun k y1 y2 => ⟨q_h.2.2.2.2.1.1 k y1 y2, p_z k y1 y2⟩) q_zsr q_zir) (fun rv h' z => ⟨z.1.trans (congrArg (fun x => some (Value.long x)) ?_), zIL_0 q_h z.2⟩)
    by_cases y : (0 ≤ zs ∧ zs < 4 ∧ 0 ≤ zi ∧ zi < P.xZ zs)
    · rw [if_pos y, if_pos y]; exact q_h.2.2.2.2.1.2 zs zi y.1 y.2.1 y.2.2.1 y.2.2.2
    · rw [if_neg y, if_neg y]
  · refine wp_con (jR_get zd (by omega) (fun k y1 y2 => ⟨q_h.2.2.2.2.1.1 k y1 y2, p_z k y1 y2⟩) q_zsr q_zir) (fun rv h' z => ⟨z.1.trans (congrArg (fun x => some (Value.long x)) ?_), zIR_0 q_h z.2⟩)
    by_cases y : (0 ≤ zs ∧ zs < 4 ∧ 0 ≤ zi ∧ zi < P.xZ zs)
    · rw [if_pos y, if_pos y]; exact q_h.2.2.2.2.1.2 zs zi y.1 y.2.1 y.2.2.1 y.2.2.2
    · rw [if_neg y, if_neg y]
set_option maxRecDepth 20000 in
set_option maxHeartbeats 4000000 in
theorem jo_into (zd : Nat) (q_d : 8 ≤ zd) {n : Nat} {P : zSta} {zs zi zw : Int} (q_n : n ≤ 600) (q_P : zPu P) (q_zsr : -2147483648 ≤ zs ∧ zs < 2147483648) (q_zir : -2147483648 ≤ zi ∧ zi < 2147483648) (q_zwr : -2147483648 ≤ zw ∧ zw < 2147483648) : zBoth zd am_m_Lp_into am_m_Model_into [(1, .int (iN zs)), (2, .int (iN zi)), (3, .int (iN zw))] n P := by
  have q_P0 := q_P
  obtain ⟨p_g, p_k, p_u, p_h, ⟨p_l, p_c⟩, p_z, p_m⟩ := q_P
  by_cases y : (0 ≤ zs ∧ zs < 4 ∧ 0 ≤ zw ∧ zw ≤ 2 ∧ 0 ≤ P.xZ zs ∧ 0 ≤ zi)
  · refine ⟨(iN (zIn P.xN (P.xZ zs) zi)), (zSt8 P.xN P.xG P.xS P.xT P.xB P.xU P.xV P.xGH P.xSH P.xTH P.xL P.xF P.xZ (fun j => if 20 * zs + zi ≤ j ∧ j < 20 * zs + zi + zIn P.xN (P.xZ zs) zi then (iN (zVal P.xN P.xG P.xT zw (j - 20 * zs - zi))).toInt64 else P.xY j) P.xM P.xIG P.xIS P.xIT P.xIB), q_P0, fun h q_h => ?_, fun h q_h => ?_⟩
    · have q_h0 := q_h
      obtain ⟨q_nm, q_hd, q_c, q_t, q_s, q_i, q_k⟩ := q_h
      obtain ⟨zs0, zk, zb, zt, zj, q_b⟩ := q_k
      have q_b0 := q_b
      obtain ⟨⟨a1, a2, a3, a4, a5⟩, b1, b2, b3, b4, ⟨c1, c2⟩, e1, e2⟩ := q_b
      refine wp_con (jL_into zd (by omega) q_nm p_g c1 a1 a2 (by omega) e1 (fun k y1 y2 => ⟨q_s.1 k y1 y2, p_z k y1 y2⟩) q_zsr q_zir q_zwr) (fun rv h' z => ⟨(z.1 y).1, ?_⟩)
      obtain ⟨_, zg1, f1, f2, f3, z2, z3⟩ := z.1 y
      obtain ⟨⟨r1, r2, r3, r4, r5, r6, r7⟩, r8⟩ := zIL_P q_P0 q_h0 q_b0 (Or.inr ⟨am_fr_m f1 (by decide), f2, f3⟩)
      refine ⟨⟨?_, ?_, ?_, ?_, ?_, ?_, ?_⟩, zKL_t r8 (zKL_2 z2 (by decide))⟩
      · rw [z2.1]; exact r1
      · rw [z2.1]; exact r2
      · rw [z2.1]; exact r3
      · rw [z2.1]; exact r4
      · refine ⟨by rw [z2.1]; exact r5.1, fun k i y1 y2 y3 y4 => ?_⟩
        show _ = (if 20 * zs + zi ≤ 20 * k + i ∧ 20 * k + i < 20 * zs + zi + zIn P.xN (P.xZ zs) zi then (iN (zVal P.xN P.xG P.xT zw ((20 * k + i) - 20 * zs - zi))).toInt64 else P.xY (20 * k + i))
        rw [z3, show (((20 * k + i).toNat : Nat) : Int) = 20 * k + i by omega]
        by_cases y5 : 20 * zs + zi ≤ 20 * k + i ∧ 20 * k + i < 20 * zs + zi + zIn P.xN (P.xZ zs) zi
        · rw [if_pos y5, if_pos y5]
        · rw [if_neg y5, if_neg y5]; exact q_s.2 k i y1 y2 y3 y4
      · rw [z2.1]; exact r6
      · exact zJk_f (ks := []) (Nat.le_refl _) (fun c _ => congrFun z2.1 c) (fun _ _ z => by cases z) r7
    · have q_h0 := q_h
      obtain ⟨q_nm, q_hd, ⟨q_u, q_v, q_c⟩, q_t, q_s, q_m, q_i⟩ := q_h
      refine wp_con (jR_into zd (by omega) q_nm p_g (fun k y1 y2 => ⟨q_s.1 k y1 y2, p_z k y1 y2⟩) q_zsr q_zir q_zwr) (fun rv h' z => ⟨(z.1 y).1, ?_⟩)
      obtain ⟨_, zg1, f1, z2, z3⟩ := z.1 y
      obtain ⟨⟨r1, r2, r3, r4, r5, r6⟩, r8⟩ := zIR_S q_h0 f1
      refine ⟨⟨?_, ?_, ?_, ?_, ?_, ?_⟩, zKR_t r8 (zKR_2 z2 (by decide))⟩
      · rw [z2.1]; exact r1
      · rw [z2.1]; exact r2
      · rw [z2.1]; exact r3
      · rw [z2.1]; exact r4
      · refine ⟨by rw [z2.1]; exact r5.1, fun k i y1 y2 y3 y4 => ?_⟩
        show _ = (if 20 * zs + zi ≤ 20 * k + i ∧ 20 * k + i < 20 * zs + zi + zIn P.xN (P.xZ zs) zi then (iN (zVal P.xN P.xG P.xT zw ((20 * k + i) - 20 * zs - zi))).toInt64 else P.xY (20 * k + i))
        rw [z3, show (((20 * k + i).toNat : Nat) : Int) = 20 * k + i by omega]
        by_cases y5 : 20 * zs + zi ≤ 20 * k + i ∧ 20 * k + i < 20 * zs + zi + zIn P.xN (P.xZ zs) zi
        · rw [if_pos y5, if_pos y5]
        · rw [if_neg y5, if_neg y5]; exact q_s.2 k i y1 y2 y3 y4
      · rw [z2.1]; exact r6
  · refine ⟨(iN (if ¬ (0 ≤ zs ∧ zs < 4) ∨ ¬ (0 ≤ zw ∧ zw ≤ 2) then -1 else if P.xZ zs < 0 then -11 else -13)), P, q_P0, fun h q_h => ?_, fun h q_h => ?_⟩
    · have q_h0 := q_h
      obtain ⟨q_nm, q_hd, q_c, q_t, q_s, q_i, q_k⟩ := q_h
      obtain ⟨zs0, zk, zb, zt, zj, q_b⟩ := q_k
      obtain ⟨⟨a1, a2, a3, a4, a5⟩, b1, b2, b3, b4, ⟨c1, c2⟩, e1, e2⟩ := q_b
      exact wp_con (jL_into zd (by omega) q_nm p_g c1 a1 a2 (by omega) e1 (fun k y1 y2 => ⟨q_s.1 k y1 y2, p_z k y1 y2⟩) q_zsr q_zir q_zwr) (fun rv h' z => ⟨(z.2 y).1, zIL_0 q_h0 (z.2 y).2⟩)
    · exact wp_con (jR_into zd (by omega) q_h.1 p_g (fun k y1 y2 => ⟨q_h.2.2.2.2.1.1 k y1 y2, p_z k y1 y2⟩) q_zsr q_zir q_zwr) (fun rv h' z => ⟨(z.2 y).1, zIR_0 q_h (z.2 y).2⟩)
