/-! ONE CALL on both sides: the tape, by hand, the shelves -/
set_option maxRecDepth 20000 in
set_option maxHeartbeats 4000000 in
theorem jo_feed (zd : Nat) (q_d : 8 ≤ zd) {n : Nat} {P : zSta} {zc : Int} (q_n : n ≤ 600) (q_P : zPu P) (q_zcr : -2147483648 ≤ zc ∧ zc < 2147483648) : zBoth zd am_m_Lp_feed am_m_Model_feed [(1, .int (iN zc))] n P := by
  have q_P0 := q_P
  obtain ⟨p_g, p_k, p_u, p_h, ⟨p_l, p_c⟩, p_z, p_m⟩ := q_P
  by_cases y : (32 ≤ zc ∧ zc ≤ 126 ∧ P.xL < 120)
  · refine ⟨(iN (P.xL + 1)), (zSt8 P.xN P.xG P.xS P.xT P.xB P.xU P.xV P.xGH P.xSH P.xTH (P.xL + 1) (zIp P.xF P.xL zc) P.xZ P.xY P.xM P.xIG P.xIS P.xIT P.xIB), ⟨p_g, p_k, p_u, p_h, ⟨⟨?_, ?_⟩, fun k y1 y2 => ?_⟩, p_z, p_m⟩, fun h q_h => ?_, fun h q_h => ?_⟩
    · show (0 : Int) ≤ P.xL + 1; omega
    · show P.xL + 1 ≤ (120 : Int); omega
    · show 32 ≤ (if k = P.xL then zc else P.xF k) ∧ (if k = P.xL then zc else P.xF k) ≤ 126
      by_cases y3 : k = P.xL
      · rw [if_pos y3]; omega
      · rw [if_neg y3]; exact p_c k y1 (by have : k < P.xL + 1 := y2; omega)
    · obtain ⟨q_nm, q_hd, q_c, q_t, q_s, q_i, q_k⟩ := q_h
      refine wp_con (jL_feed zd (by omega) q_t.1 p_l q_zcr) (fun rv h' z => ⟨(z.1 y).1, ?_⟩)
      have z2 := (z.1 y).2
      have qf : am_fr [27, 28] h h' := by rw [← z2]; exact am_fr_w (am_fr_w (am_fr_0 _ _) (by decide) _ _) (by decide) _ _
      refine ⟨⟨?_, ?_, ?_, ?_, ?_, ?_, ?_⟩, zKL_f qf (by decide)⟩
      · rw [qf.2 1 (by decide), qf.2 2 (by decide)]; exact q_nm
      · rw [qf.2 24 (by decide)]; exact q_hd
      · rw [qf.2 25 (by decide), qf.2 26 (by decide)]; exact q_c
      · rw [← z2]
        · refine ⟨am_wr_at, fun k y1 y2 => ?_⟩
          rw [am_wr_ne (by decide)]
          show _ = iN (if k = P.xL then zc else P.xF k)
          by_cases y3 : k = P.xL
          · rw [y3, if_pos rfl, am_wr_at]
          · rw [if_neg y3, am_wr_no (by omega)]; exact q_t.2 k y1 (by have : k < P.xL + 1 := y2; omega)
      · rw [qf.2 33 (by decide), qf.1]; exact q_s
      · rw [qf.2 0 (by decide), qf.2 51 (by decide), qf.2 52 (by decide), qf.2 54 (by decide)]; exact q_i
      · exact zJk_f (Nat.le_succ n) qf.2 (by decide) q_k
    · obtain ⟨q_nm, q_hd, ⟨q_u, q_v, q_c⟩, q_t, q_s, q_m, q_i⟩ := q_h
      refine wp_con (jR_feed zd (by omega) q_t.1 p_l q_zcr) (fun rv h' z => ⟨(z.1 y).1, ?_⟩)
      have z2 := (z.1 y).2
      have qf : am_fr [55, 59] h h' := by rw [← z2]; exact am_fr_w (am_fr_w (am_fr_0 _ _) (by decide) _ _) (by decide) _ _
      refine ⟨?_, zKR_f qf (by decide)⟩
      rw [← z2]
      refine ⟨?_, ?_, ?_, ?_, ?_, ?_⟩
      · exact zMm_g q_nm ((am_wr_no (by decide)).trans (congrFun (am_wr_ne (by decide)) _)) ((am_wr_ne (by decide)).trans (am_wr_ne (by decide)))
      · rw [am_wr_ne (by decide), am_wr_ne (by decide)]; exact q_hd
      · refine ⟨((am_wr_no (by decide)).trans (congrFun (am_wr_ne (by decide)) _)).trans q_u, ((am_wr_no (by decide)).trans (congrFun (am_wr_ne (by decide)) _)).trans q_v, ?_⟩
        rw [am_wr_ne (by decide), am_wr_ne (by decide)]; exact q_c
      · refine ⟨am_wr_at, fun k y1 y2 => ?_⟩
        rw [am_wr_ne (show 59 ≠ 55 by decide)]
        show _ = iN (if k = P.xL then zc else P.xF k)
        by_cases y3 : k = P.xL
        · rw [y3, if_pos rfl, am_wr_at]
        · rw [if_neg y3, am_wr_no (by omega)]; exact q_t.2 k y1 (by have : k < P.xL + 1 := y2; omega)
      · rw [am_wr_ne (by decide), am_wr_ne (by decide)]; exact q_s
      · refine ⟨((am_wr_no (by decide)).trans (congrFun (am_wr_ne (by decide)) _)).trans q_m, ?_⟩
        rw [am_wr_ne (show 76 ≠ 55 by decide), am_wr_ne (show 76 ≠ 59 by decide), am_wr_ne (show 77 ≠ 55 by decide), am_wr_ne (show 77 ≠ 59 by decide)]; exact q_i
  · refine ⟨(iN (if 32 ≤ zc ∧ zc ≤ 126 then -3 else -1)), P, q_P0, fun h q_h => ?_, fun h q_h => ?_⟩
    · exact wp_con (jL_feed zd (by omega) q_h.2.2.2.1.1 p_l q_zcr) (fun rv h' z => ⟨(z.2 y).1, zIL_0 q_h (z.2 y).2⟩)
    · exact wp_con (jR_feed zd (by omega) q_h.2.2.2.1.1 p_l q_zcr) (fun rv h' z => ⟨(z.2 y).1, zIR_0 q_h (z.2 y).2⟩)
set_option maxRecDepth 20000 in
set_option maxHeartbeats 4000000 in
theorem jo_hand (zd : Nat) (q_d : 8 ≤ zd) {n : Nat} {P : zSta} {zp zv : Int} (q_n : n ≤ 600) (q_P : zPu P) (q_zpr : -2147483648 ≤ zp ∧ zp < 2147483648) (q_zvr : -2147483648 ≤ zv ∧ zv < 2147483648) : zBoth zd am_m_Lp_hand am_m_Model_hand [(1, .int (iN zp)), (2, .int (iN zv))] n P := by
  have q_P0 := q_P
  obtain ⟨p_g, p_k, p_u, p_h, ⟨p_l, p_c⟩, p_z, p_m⟩ := q_P
  by_cases y : (0 ≤ zp ∧ zp < P.xN ∧ 0 ≤ zv ∧ zv ≤ 999)
  · refine ⟨(iN (P.xB zp)), (zSt8 P.xN P.xG P.xS P.xT (zIp P.xB zp zv) P.xU P.xV P.xGH P.xSH P.xTH P.xL P.xF P.xZ P.xY P.xM P.xIG P.xIS P.xIT P.xIB), ⟨p_g, ⟨fun p y1 y2 => ?_, fun p y1 => ?_⟩, p_u, p_h, ⟨p_l, p_c⟩, p_z, p_m⟩, fun h q_h => ?_, fun h q_h => ?_⟩
    · show 0 ≤ (if p = zp then zv else P.xB p) ∧ (if p = zp then zv else P.xB p) ≤ 1584
      by_cases y3 : p = zp
      · rw [if_pos y3]; omega
      · rw [if_neg y3]; exact p_k.1 p y1 y2
    · show (if p = zp then zv else P.xB p) = 0
      rw [if_neg (by have : P.xN ≤ p := y1; omega)]; exact p_k.2 p y1
    · obtain ⟨q_nm, q_hd, q_c, q_t, q_s, q_i, q_k⟩ := q_h
      refine wp_con (jL_hand zd (by omega) q_nm p_g q_hd q_zpr q_zvr) (fun rv h' z => ⟨(z.1 y).1, ?_⟩)
      have z2 := (z.1 y).2
      have qf : am_fr [24] h h' := by rw [← z2]; exact am_fr_r (am_fr_0 _ _) (by decide) _
      refine ⟨⟨?_, ?_, ?_, ?_, ?_, ?_, ?_⟩, zKL_f qf (by decide)⟩
      · rw [qf.2 1 (by decide), qf.2 2 (by decide)]; exact q_nm
      · rw [← z2, am_row_s]; exact zHd_up q_hd y.1
      · rw [qf.2 25 (by decide), qf.2 26 (by decide)]; exact q_c
      · rw [qf.2 27 (by decide), qf.2 28 (by decide)]; exact q_t
      · rw [qf.2 33 (by decide), qf.1]; exact q_s
      · rw [qf.2 0 (by decide), qf.2 51 (by decide), qf.2 52 (by decide), qf.2 54 (by decide)]; exact q_i
      · exact zJk_f (Nat.le_succ n) qf.2 (by decide) q_k
    · obtain ⟨q_nm, q_hd, ⟨q_u, q_v, q_c⟩, q_t, q_s, q_m, q_i⟩ := q_h
      refine wp_con (jR_hand zd (by omega) q_nm p_g q_hd q_zpr q_zvr) (fun rv h' z => ⟨(z.1 y).1, ?_⟩)
      have z2 := (z.1 y).2
      have qf : am_fr [57] h h' := by rw [← z2]; exact am_fr_w (am_fr_0 _ _) (by decide) _ _
      refine ⟨⟨?_, ?_, ?_, ?_, ?_, ?_⟩, zKR_f qf (by decide)⟩
      · rw [qf.2 55 (by decide), qf.2 56 (by decide)]; exact q_nm
      · rw [← z2, am_wr_row, am_row_s]; exact zHd_up q_hd y.1
      · rw [qf.2 55 (by decide), qf.2 58 (by decide)]; exact ⟨q_u, q_v, q_c⟩
      · rw [qf.2 55 (by decide), qf.2 59 (by decide)]; exact q_t
      · rw [qf.2 74 (by decide), qf.1]; exact q_s
      · rw [qf.2 55 (by decide), qf.2 76 (by decide), qf.2 77 (by decide)]; exact ⟨q_m, q_i⟩
  · refine ⟨(iN (-1)), P, q_P0, fun h q_h => ?_, fun h q_h => ?_⟩
    · exact wp_con (jL_hand zd (by omega) q_h.1 p_g q_h.2.1 q_zpr q_zvr) (fun rv h' z => ⟨(z.2 y).1, zIL_0 q_h (z.2 y).2⟩)
    · exact wp_con (jR_hand zd (by omega) q_h.1 p_g q_h.2.1 q_zpr q_zvr) (fun rv h' z => ⟨(z.2 y).1, zIR_0 q_h (z.2 y).2⟩)
