/-! TEXTS THAT ARE READ: the reference's clauses -/
set_option maxRecDepth 20000 in
set_option maxHeartbeats 4000000 in
theorem jl_mletters (zd : Nat) (q_d : 3 ≤ zd) {zh : am_H} {F : Int → Int} {zl : Int} {zi ze zg : Int} (q_ln : zh.1 55 9 = iN zl) (q_r : 0 ≤ zl ∧ zl ≤ 120) (q_f : ∀ k : Int, 0 ≤ k → k < zl → zh.1 59 k.toNat = iN (F k)) (q_c : ∀ k : Int, 0 ≤ k → k < zl → 32 ≤ F k ∧ F k ≤ 126) {zQ : Option Value → am_H → Prop} (zk : am_wp zd am_m_Model_which 35 [(0, .ref 55), (1, .int (iN (zi)))] [] (78, 76) (zS3 zh ze (-1) zg) (78, 76) zQ) : ∀ (z_n : Nat) (zp : Int) (q_i : 0 ≤ zp ∧ zp ≤ zl) (q_z : zWe F zl zp = ze), zl + 1 - zp < (z_n : Int) → am_wp zd am_m_Model_which 5 [(0, .ref 55), (1, .int (iN (zi)))] [] (78, 76) (zS3 zh zp (-1) zg) (78, 76) zQ := by
  obtain ⟨zd, rfl⟩ : ∃ y_e, zd = y_e + 3 := ⟨zd - 3, by omega⟩
  intro z_n
  induction z_n with
  | zero => intro zp q_i q_z q_m; omega
  | succ z_n z_ih =>
    intro zp q_i q_z q_m
    refine wp_run (k := 1) (pc1 := 6) (l1 := [(0, .ref 55), (1, .int (iN (zi)))]) (st1 := [.ref 55]) (kr1 := (78, 76)) (h1 := zS3 zh zp (-1) zg) rfl ?_
    refine wp_call (md1 := am_m_Model_here) (As := [.ref 55]) (rest := []) (kr1 := (78, 76)) rfl (jm_hereS _ (F := F) (zl := zl) (zi := zp) q_ln q_r q_f (by omega)) ?_
    rintro _ _ ⟨rfl, rfl⟩
    have y_s := zSg_rg (i := zp) q_c
    refine wp_run (k := 3) (pc1 := 16) (l1 := [(0, .ref 55), (1, .int (iN (zi)))]) (st1 := [.long ((122 : Int64)), .long ((97 : Int64)), .long ((iN (zSg F zl (zp))).toInt64)]) (kr1 := (78, 76)) (h1 := zS3 zh zp (-1) zg) rfl ?_
    refine wp_call (md1 := am_m_Model_isIn) (As := [.long ((iN (zSg F zl (zp))).toInt64), .long ((97 : Int64)), .long ((122 : Int64))]) (rest := []) (kr1 := (78, 76)) rfl (jt_isIn _ (by omega) (i2l_i (z := zSg F zl (zp)) (by omega)) (show ((97 : Int64) : Int64).toInt = 97 by decide) (show ((122 : Int64) : Int64).toInt = 122 by decide)) ?_
    rintro _ _ ⟨rfl, rfl⟩
    refine wp_eqb rfl (fun b_19 => ?_) (fun b_19 => ?_)
    · have y_e : zWe F zl zp = zp := zWe_2 (by omega)
      rw [y_e] at q_z
      rw [q_z]
      exact zk
    · refine wp_run (k := 5) (pc1 := 29) (l1 := [(0, .ref 55), (1, .int (iN (zi)))]) (st1 := [.int (iN ((zp) + (1))), .ref 55]) (kr1 := (78, 76)) (h1 := zS3 zh zp (-1) zg) (Eq.trans (b := (some (29, [(0, .ref 55), (1, .int (iN (zi)))], [.int (((zS3 zh zp (-1) zg).1 55 8) + (iN (1))), .ref 55], (78, 76), zS3 zh zp (-1) zg) : Option am_C)) rfl (by simp only [(show (zS3 zh zp (-1) zg).1 55 8 = iN (zp) from (zS3_a _ _ _ _).1), Int32.ofInt_add, Int32.ofInt_sub, Int32.ofInt_mul, Int32.ofInt_neg])) ?_
      refine wp_run (k := 2) (pc1 := 5) (l1 := [(0, .ref 55), (1, .int (iN (zi)))]) (st1 := []) (kr1 := (78, 76)) (h1 := am_wr (zS3 zh zp (-1) zg) 55 8 (iN ((zp) + (1)))) rfl ?_
      rw [zS3_8]
      exact z_ih (zp + 1) (by omega) (by rw [← q_z]; exact (zWe_1 (by omega)).symm) (by omega)
set_option maxRecDepth 20000 in
set_option maxHeartbeats 4000000 in
theorem jm_which (zd : Nat) (q_d : 5 ≤ zd) {zh : am_H} {F : Int → Int} {zl : Int} {zi zg : Int} (q_ln : zh.1 55 9 = iN zl) (q_r : 0 ≤ zl ∧ zl ≤ 120) (q_f : ∀ k : Int, 0 ≤ k → k < zl → zh.1 59 k.toNat = iN (F k)) (q_c : ∀ k : Int, 0 ≤ k → k < zl → 32 ≤ F k ∧ F k ≤ 126) (q_i : 0 ≤ zi ∧ zi ≤ zl) : am_wp zd am_m_Model_which 0 [(0, .ref 55)] [] (78, 76) (zS3 zh zi (-1) zg) (78, 76) (fun rv h' => rv = some (.int (iN (zWw F zi (zWe F zl zi)))) ∧ (0 ≤ zWw F zi (zWe F zl zi) → zS3 zh (zWe F zl zi) (-1) zg = h') ∧ (zWw F zi (zWe F zl zi) < 0 → zS3 zh (zWe F zl zi) zi zg = h')) := by
  obtain ⟨zd, rfl⟩ : ∃ y_e, zd = y_e + 5 := ⟨zd - 5, by omega⟩
  refine wp_run (k := 3) (pc1 := 5) (l1 := [(0, .ref 55), (1, .int (iN (zi)))]) (st1 := []) (kr1 := (78, 76)) (h1 := zS3 zh zi (-1) zg) (Eq.trans (b := (some (5, [(0, .ref 55), (1, .int ((zS3 zh zi (-1) zg).1 55 8))], [], (78, 76), zS3 zh zi (-1) zg) : Option am_C)) rfl (by simp only [(show (zS3 zh zi (-1) zg).1 55 8 = iN (zi) from (zS3_a _ _ _ _).1), Int32.ofInt_add, Int32.ofInt_sub, Int32.ofInt_mul, Int32.ofInt_neg])) ?_
  have y_e := zWe_rg (F := F) (L := zl) (i := zi) q_i.2
  refine jl_mletters (zi := zi) (ze := zWe F zl zi) _ (by omega) q_ln q_r q_f q_c ?_ 130 zi (by omega) rfl (by omega)
  refine wp_run (k := 5) (pc1 := 41) (l1 := [(0, .ref 55), (1, .int (iN (zi))), (2, .int (iN (-1)))]) (st1 := [.ref 1006, .int (iN (zi)), .ref 55]) (kr1 := (78, 76)) (h1 := zS3 zh (zWe F zl zi) (-1) zg) rfl ?_
  refine wp_call (md1 := am_m_Model_isWord) (As := [.ref 55, .int (iN (zi)), .ref 1006]) (rest := []) (kr1 := (78, 76)) rfl (jm_isWord_0 _ (by omega) q_ln q_r q_f q_c (zi := zWe F zl zi) (zb := zi) (by omega)) ?_
  rintro _ _ ⟨rfl, rfl⟩
  refine wp_eqb rfl (fun b_44 => ?_) (fun b_44 => ?_)
  · refine wp_run (k := 5) (pc1 := 57) (l1 := [(0, .ref 55), (1, .int (iN (zi))), (2, .int (iN (-1)))]) (st1 := [.ref 1007, .int (iN (zi)), .ref 55]) (kr1 := (78, 76)) (h1 := zS3 zh (zWe F zl zi) (-1) zg) rfl ?_
    refine wp_call (md1 := am_m_Model_isWord) (As := [.ref 55, .int (iN (zi)), .ref 1007]) (rest := []) (kr1 := (78, 76)) rfl (jm_isWord_1 _ (by omega) q_ln q_r q_f q_c (zi := zWe F zl zi) (zb := zi) (by omega)) ?_
    rintro _ _ ⟨rfl, rfl⟩
    refine wp_eqb rfl (fun b_60 => ?_) (fun b_60 => ?_)
    · refine wp_run (k := 5) (pc1 := 73) (l1 := [(0, .ref 55), (1, .int (iN (zi))), (2, .int (iN (-1)))]) (st1 := [.ref 1008, .int (iN (zi)), .ref 55]) (kr1 := (78, 76)) (h1 := zS3 zh (zWe F zl zi) (-1) zg) rfl ?_
      refine wp_call (md1 := am_m_Model_isWord) (As := [.ref 55, .int (iN (zi)), .ref 1008]) (rest := []) (kr1 := (78, 76)) rfl (jm_isWord_2 _ (by omega) q_ln q_r q_f q_c (zi := zWe F zl zi) (zb := zi) (by omega)) ?_
      rintro _ _ ⟨rfl, rfl⟩
      refine wp_eqb rfl (fun b_76 => ?_) (fun b_76 => ?_)
      · refine wp_run (k := 5) (pc1 := 89) (l1 := [(0, .ref 55), (1, .int (iN (zi))), (2, .int (iN (-1)))]) (st1 := [.ref 1009, .int (iN (zi)), .ref 55]) (kr1 := (78, 76)) (h1 := zS3 zh (zWe F zl zi) (-1) zg) rfl ?_
        refine wp_call (md1 := am_m_Model_isWord) (As := [.ref 55, .int (iN (zi)), .ref 1009]) (rest := []) (kr1 := (78, 76)) rfl (jm_isWord_3 _ (by omega) q_ln q_r q_f q_c (zi := zWe F zl zi) (zb := zi) (by omega)) ?_
        rintro _ _ ⟨rfl, rfl⟩
        refine wp_eqb rfl (fun b_92 => ?_) (fun b_92 => ?_)
        · refine wp_run (k := 5) (pc1 := 105) (l1 := [(0, .ref 55), (1, .int (iN (zi))), (2, .int (iN (-1)))]) (st1 := [.ref 1010, .int (iN (zi)), .ref 55]) (kr1 := (78, 76)) (h1 := zS3 zh (zWe F zl zi) (-1) zg) rfl ?_
          refine wp_call (md1 := am_m_Model_isWord) (As := [.ref 55, .int (iN (zi)), .ref 1010]) (rest := []) (kr1 := (78, 76)) rfl (jm_isWord_4 _ (by omega) q_ln q_r q_f q_c (zi := zWe F zl zi) (zb := zi) (by omega)) ?_
          rintro _ _ ⟨rfl, rfl⟩
          refine wp_eqb rfl (fun b_108 => ?_) (fun b_108 => ?_)
          · refine wp_run (k := 5) (pc1 := 121) (l1 := [(0, .ref 55), (1, .int (iN (zi))), (2, .int (iN (-1)))]) (st1 := [.ref 1011, .int (iN (zi)), .ref 55]) (kr1 := (78, 76)) (h1 := zS3 zh (zWe F zl zi) (-1) zg) rfl ?_
            refine wp_call (md1 := am_m_Model_isWord) (As := [.ref 55, .int (iN (zi)), .ref 1011]) (rest := []) (kr1 := (78, 76)) rfl (jm_isWord_5 _ (by omega) q_ln q_r q_f q_c (zi := zWe F zl zi) (zb := zi) (by omega)) ?_
            rintro _ _ ⟨rfl, rfl⟩
            refine wp_eqb rfl (fun b_124 => ?_) (fun b_124 => ?_)
            · refine wp_run (k := 3) (pc1 := 134) (l1 := [(0, .ref 55), (1, .int (iN (zi))), (2, .int (iN (-1)))]) (st1 := [.int (iN (-1))]) (kr1 := (78, 76)) (h1 := zS3 zh (zWe F zl zi) (-1) zg) rfl ?_
              refine wp_ge0 (a := -1) rfl (by omega) (fun b_134 => ?_) (fun b_134 => ?_)
              · exact absurd b_134 (by decide)
              · refine wp_run (k := 2) (pc1 := 139) (l1 := [(0, .ref 55), (1, .int (iN (zi))), (2, .int (iN (-1)))]) (st1 := [.int (iN (zi)), .ref 55]) (kr1 := (78, 76)) (h1 := zS3 zh (zWe F zl zi) (-1) zg) rfl ?_
                refine wp_call (md1 := am_m_Model_fails) (As := [.ref 55, .int (iN (zi))]) (rest := []) (kr1 := (78, 76)) rfl (jm_fails _ (by omega) (zh := zh) (zx := zWe F zl zi) (zp := zi) (zg := zg)) ?_
                rintro _ _ ⟨rfl, rfl⟩
                refine wp_run (k := 2) (pc1 := 144) (l1 := [(0, .ref 55), (1, .int (iN (zi))), (2, .int (iN (-1)))]) (st1 := [.int (iN (-1))]) (kr1 := (78, 76)) (h1 := zS3 zh (zWe F zl zi) (zi) (zg)) rfl ?_
                refine wp_ret (rv := some (.int (iN (-1)))) rfl ?_
                have y_w : zWw F zi (zWe F zl zi) = -1 := by unfold zWw; rw [if_neg b_44, if_neg b_60, if_neg b_76, if_neg b_92, if_neg b_108, if_neg b_124]
                exact ⟨by rw [y_w], fun y => by omega, fun _ => rfl⟩
            · refine wp_run (k := 4) (pc1 := 134) (l1 := [(0, .ref 55), (1, .int (iN (zi))), (2, .int (iN (5)))]) (st1 := [.int (iN (5))]) (kr1 := (78, 76)) (h1 := zS3 zh (zWe F zl zi) (-1) zg) rfl ?_
              refine wp_ge0 (a := 5) rfl (by omega) (fun b_134_8 => ?_) (fun b_134_8 => ?_)
              · refine wp_run (k := 1) (pc1 := 144) (l1 := [(0, .ref 55), (1, .int (iN (zi))), (2, .int (iN (5)))]) (st1 := [.int (iN (5))]) (kr1 := (78, 76)) (h1 := zS3 zh (zWe F zl zi) (-1) zg) rfl ?_
                refine wp_ret (rv := some (.int (iN (5)))) rfl ?_
                have y_w : zWw F zi (zWe F zl zi) = 5 := by unfold zWw; rw [if_neg b_44, if_neg b_60, if_neg b_76, if_neg b_92, if_neg b_108, if_pos b_124]
                exact ⟨by rw [y_w], fun _ => rfl, fun y => by omega⟩
              · exact absurd b_134_8 (by decide)
          · refine wp_run (k := 6) (pc1 := 121) (l1 := [(0, .ref 55), (1, .int (iN (zi))), (2, .int (iN (4)))]) (st1 := [.ref 1011, .int (iN (zi)), .ref 55]) (kr1 := (78, 76)) (h1 := zS3 zh (zWe F zl zi) (-1) zg) rfl ?_
            refine wp_call (md1 := am_m_Model_isWord) (As := [.ref 55, .int (iN (zi)), .ref 1011]) (rest := []) (kr1 := (78, 76)) rfl (jm_isWord_5 _ (by omega) q_ln q_r q_f q_c (zi := zWe F zl zi) (zb := zi) (by omega)) ?_
            rintro _ _ ⟨rfl, rfl⟩
            refine wp_eqb rfl (fun b_124_9 => ?_) (fun b_124_9 => ?_)
            · refine wp_run (k := 3) (pc1 := 134) (l1 := [(0, .ref 55), (1, .int (iN (zi))), (2, .int (iN (4)))]) (st1 := [.int (iN (4))]) (kr1 := (78, 76)) (h1 := zS3 zh (zWe F zl zi) (-1) zg) rfl ?_
              refine wp_ge0 (a := 4) rfl (by omega) (fun b_134_10 => ?_) (fun b_134_10 => ?_)
              · refine wp_run (k := 1) (pc1 := 144) (l1 := [(0, .ref 55), (1, .int (iN (zi))), (2, .int (iN (4)))]) (st1 := [.int (iN (4))]) (kr1 := (78, 76)) (h1 := zS3 zh (zWe F zl zi) (-1) zg) rfl ?_
                refine wp_ret (rv := some (.int (iN (4)))) rfl ?_
                have y_w : zWw F zi (zWe F zl zi) = 4 := by unfold zWw; rw [if_neg b_44, if_neg b_60, if_neg b_76, if_neg b_92, if_pos b_108]
                exact ⟨by rw [y_w], fun _ => rfl, fun y => by omega⟩
              · exact absurd b_134_10 (by decide)
            · exact absurd (zMt_u (by decide) (by decide) b_108 b_124_9) (by decide)
        · refine wp_run (k := 6) (pc1 := 105) (l1 := [(0, .ref 55), (1, .int (iN (zi))), (2, .int (iN (3)))]) (st1 := [.ref 1010, .int (iN (zi)), .ref 55]) (kr1 := (78, 76)) (h1 := zS3 zh (zWe F zl zi) (-1) zg) rfl ?_
          refine wp_call (md1 := am_m_Model_isWord) (As := [.ref 55, .int (iN (zi)), .ref 1010]) (rest := []) (kr1 := (78, 76)) rfl (jm_isWord_4 _ (by omega) q_ln q_r q_f q_c (zi := zWe F zl zi) (zb := zi) (by omega)) ?_
          rintro _ _ ⟨rfl, rfl⟩
          refine wp_eqb rfl (fun b_108_11 => ?_) (fun b_108_11 => ?_)
          · refine wp_run (k := 5) (pc1 := 121) (l1 := [(0, .ref 55), (1, .int (iN (zi))), (2, .int (iN (3)))]) (st1 := [.ref 1011, .int (iN (zi)), .ref 55]) (kr1 := (78, 76)) (h1 := zS3 zh (zWe F zl zi) (-1) zg) rfl ?_
            refine wp_call (md1 := am_m_Model_isWord) (As := [.ref 55, .int (iN (zi)), .ref 1011]) (rest := []) (kr1 := (78, 76)) rfl (jm_isWord_5 _ (by omega) q_ln q_r q_f q_c (zi := zWe F zl zi) (zb := zi) (by omega)) ?_
            rintro _ _ ⟨rfl, rfl⟩
            refine wp_eqb rfl (fun b_124_12 => ?_) (fun b_124_12 => ?_)
            · refine wp_run (k := 3) (pc1 := 134) (l1 := [(0, .ref 55), (1, .int (iN (zi))), (2, .int (iN (3)))]) (st1 := [.int (iN (3))]) (kr1 := (78, 76)) (h1 := zS3 zh (zWe F zl zi) (-1) zg) rfl ?_
              refine wp_ge0 (a := 3) rfl (by omega) (fun b_134_13 => ?_) (fun b_134_13 => ?_)
              · refine wp_run (k := 1) (pc1 := 144) (l1 := [(0, .ref 55), (1, .int (iN (zi))), (2, .int (iN (3)))]) (st1 := [.int (iN (3))]) (kr1 := (78, 76)) (h1 := zS3 zh (zWe F zl zi) (-1) zg) rfl ?_
                refine wp_ret (rv := some (.int (iN (3)))) rfl ?_
                have y_w : zWw F zi (zWe F zl zi) = 3 := by unfold zWw; rw [if_neg b_44, if_neg b_60, if_neg b_76, if_pos b_92]
                exact ⟨by rw [y_w], fun _ => rfl, fun y => by omega⟩
              · exact absurd b_134_13 (by decide)
            · exact absurd (zMt_u (by decide) (by decide) b_92 b_124_12) (by decide)
          · exact absurd (zMt_u (by decide) (by decide) b_92 b_108_11) (by decide)
      · refine wp_run (k := 6) (pc1 := 89) (l1 := [(0, .ref 55), (1, .int (iN (zi))), (2, .int (iN (2)))]) (st1 := [.ref 1009, .int (iN (zi)), .ref 55]) (kr1 := (78, 76)) (h1 := zS3 zh (zWe F zl zi) (-1) zg) rfl ?_
        refine wp_call (md1 := am_m_Model_isWord) (As := [.ref 55, .int (iN (zi)), .ref 1009]) (rest := []) (kr1 := (78, 76)) rfl (jm_isWord_3 _ (by omega) q_ln q_r q_f q_c (zi := zWe F zl zi) (zb := zi) (by omega)) ?_
        rintro _ _ ⟨rfl, rfl⟩
        refine wp_eqb rfl (fun b_92_14 => ?_) (fun b_92_14 => ?_)
        · refine wp_run (k := 5) (pc1 := 105) (l1 := [(0, .ref 55), (1, .int (iN (zi))), (2, .int (iN (2)))]) (st1 := [.ref 1010, .int (iN (zi)), .ref 55]) (kr1 := (78, 76)) (h1 := zS3 zh (zWe F zl zi) (-1) zg) rfl ?_
          refine wp_call (md1 := am_m_Model_isWord) (As := [.ref 55, .int (iN (zi)), .ref 1010]) (rest := []) (kr1 := (78, 76)) rfl (jm_isWord_4 _ (by omega) q_ln q_r q_f q_c (zi := zWe F zl zi) (zb := zi) (by omega)) ?_
          rintro _ _ ⟨rfl, rfl⟩
          refine wp_eqb rfl (fun b_108_15 => ?_) (fun b_108_15 => ?_)
          · refine wp_run (k := 5) (pc1 := 121) (l1 := [(0, .ref 55), (1, .int (iN (zi))), (2, .int (iN (2)))]) (st1 := [.ref 1011, .int (iN (zi)), .ref 55]) (kr1 := (78, 76)) (h1 := zS3 zh (zWe F zl zi) (-1) zg) rfl ?_
            refine wp_call (md1 := am_m_Model_isWord) (As := [.ref 55, .int (iN (zi)), .ref 1011]) (rest := []) (kr1 := (78, 76)) rfl (jm_isWord_5 _ (by omega) q_ln q_r q_f q_c (zi := zWe F zl zi) (zb := zi) (by omega)) ?_
            rintro _ _ ⟨rfl, rfl⟩
            refine wp_eqb rfl (fun b_124_16 => ?_) (fun b_124_16 => ?_)
            · refine wp_run (k := 3) (pc1 := 134) (l1 := [(0, .ref 55), (1, .int (iN (zi))), (2, .int (iN (2)))]) (st1 := [.int (iN (2))]) (kr1 := (78, 76)) (h1 := zS3 zh (zWe F zl zi) (-1) zg) rfl ?_
              refine wp_ge0 (a := 2) rfl (by omega) (fun b_134_17 => ?_) (fun b_134_17 => ?_)
              · refine wp_run (k := 1) (pc1 := 144) (l1 := [(0, .ref 55), (1, .int (iN (zi))), (2, .int (iN (2)))]) (st1 := [.int (iN (2))]) (kr1 := (78, 76)) (h1 := zS3 zh (zWe F zl zi) (-1) zg) rfl ?_
                refine wp_ret (rv := some (.int (iN (2)))) rfl ?_
                have y_w : zWw F zi (zWe F zl zi) = 2 := by unfold zWw; rw [if_neg b_44, if_neg b_60, if_pos b_76]
                exact ⟨by rw [y_w], fun _ => rfl, fun y => by omega⟩
              · exact absurd b_134_17 (by decide)
            · exact absurd (zMt_u (by decide) (by decide) b_76 b_124_16) (by decide)
          · exact absurd (zMt_u (by decide) (by decide) b_76 b_108_15) (by decide)
        · exact absurd (zMt_u (by decide) (by decide) b_76 b_92_14) (by decide)
    · refine wp_run (k := 6) (pc1 := 73) (l1 := [(0, .ref 55), (1, .int (iN (zi))), (2, .int (iN (1)))]) (st1 := [.ref 1008, .int (iN (zi)), .ref 55]) (kr1 := (78, 76)) (h1 := zS3 zh (zWe F zl zi) (-1) zg) rfl ?_
      refine wp_call (md1 := am_m_Model_isWord) (As := [.ref 55, .int (iN (zi)), .ref 1008]) (rest := []) (kr1 := (78, 76)) rfl (jm_isWord_2 _ (by omega) q_ln q_r q_f q_c (zi := zWe F zl zi) (zb := zi) (by omega)) ?_
      rintro _ _ ⟨rfl, rfl⟩
      refine wp_eqb rfl (fun b_76_18 => ?_) (fun b_76_18 => ?_)
      · refine wp_run (k := 5) (pc1 := 89) (l1 := [(0, .ref 55), (1, .int (iN (zi))), (2, .int (iN (1)))]) (st1 := [.ref 1009, .int (iN (zi)), .ref 55]) (kr1 := (78, 76)) (h1 := zS3 zh (zWe F zl zi) (-1) zg) rfl ?_
        refine wp_call (md1 := am_m_Model_isWord) (As := [.ref 55, .int (iN (zi)), .ref 1009]) (rest := []) (kr1 := (78, 76)) rfl (jm_isWord_3 _ (by omega) q_ln q_r q_f q_c (zi := zWe F zl zi) (zb := zi) (by omega)) ?_
        rintro _ _ ⟨rfl, rfl⟩
        refine wp_eqb rfl (fun b_92_19 => ?_) (fun b_92_19 => ?_)
        · refine wp_run (k := 5) (pc1 := 105) (l1 := [(0, .ref 55), (1, .int (iN (zi))), (2, .int (iN (1)))]) (st1 := [.ref 1010, .int (iN (zi)), .ref 55]) (kr1 := (78, 76)) (h1 := zS3 zh (zWe F zl zi) (-1) zg) rfl ?_
          refine wp_call (md1 := am_m_Model_isWord) (As := [.ref 55, .int (iN (zi)), .ref 1010]) (rest := []) (kr1 := (78, 76)) rfl (jm_isWord_4 _ (by omega) q_ln q_r q_f q_c (zi := zWe F zl zi) (zb := zi) (by omega)) ?_
          rintro _ _ ⟨rfl, rfl⟩
          refine wp_eqb rfl (fun b_108_20 => ?_) (fun b_108_20 => ?_)
          · refine wp_run (k := 5) (pc1 := 121) (l1 := [(0, .ref 55), (1, .int (iN (zi))), (2, .int (iN (1)))]) (st1 := [.ref 1011, .int (iN (zi)), .ref 55]) (kr1 := (78, 76)) (h1 := zS3 zh (zWe F zl zi) (-1) zg) rfl ?_
            refine wp_call (md1 := am_m_Model_isWord) (As := [.ref 55, .int (iN (zi)), .ref 1011]) (rest := []) (kr1 := (78, 76)) rfl (jm_isWord_5 _ (by omega) q_ln q_r q_f q_c (zi := zWe F zl zi) (zb := zi) (by omega)) ?_
            rintro _ _ ⟨rfl, rfl⟩
            refine wp_eqb rfl (fun b_124_21 => ?_) (fun b_124_21 => ?_)
            · refine wp_run (k := 3) (pc1 := 134) (l1 := [(0, .ref 55), (1, .int (iN (zi))), (2, .int (iN (1)))]) (st1 := [.int (iN (1))]) (kr1 := (78, 76)) (h1 := zS3 zh (zWe F zl zi) (-1) zg) rfl ?_
              refine wp_ge0 (a := 1) rfl (by omega) (fun b_134_22 => ?_) (fun b_134_22 => ?_)
              · refine wp_run (k := 1) (pc1 := 144) (l1 := [(0, .ref 55), (1, .int (iN (zi))), (2, .int (iN (1)))]) (st1 := [.int (iN (1))]) (kr1 := (78, 76)) (h1 := zS3 zh (zWe F zl zi) (-1) zg) rfl ?_
                refine wp_ret (rv := some (.int (iN (1)))) rfl ?_
                have y_w : zWw F zi (zWe F zl zi) = 1 := by unfold zWw; rw [if_neg b_44, if_pos b_60]
                exact ⟨by rw [y_w], fun _ => rfl, fun y => by omega⟩
              · exact absurd b_134_22 (by decide)
            · exact absurd (zMt_u (by decide) (by decide) b_60 b_124_21) (by decide)
          · exact absurd (zMt_u (by decide) (by decide) b_60 b_108_20) (by decide)
        · exact absurd (zMt_u (by decide) (by decide) b_60 b_92_19) (by decide)
      · exact absurd (zMt_u (by decide) (by decide) b_60 b_76_18) (by decide)
  · refine wp_run (k := 6) (pc1 := 57) (l1 := [(0, .ref 55), (1, .int (iN (zi))), (2, .int (iN (0)))]) (st1 := [.ref 1007, .int (iN (zi)), .ref 55]) (kr1 := (78, 76)) (h1 := zS3 zh (zWe F zl zi) (-1) zg) rfl ?_
    refine wp_call (md1 := am_m_Model_isWord) (As := [.ref 55, .int (iN (zi)), .ref 1007]) (rest := []) (kr1 := (78, 76)) rfl (jm_isWord_1 _ (by omega) q_ln q_r q_f q_c (zi := zWe F zl zi) (zb := zi) (by omega)) ?_
    rintro _ _ ⟨rfl, rfl⟩
    refine wp_eqb rfl (fun b_60_23 => ?_) (fun b_60_23 => ?_)
    · refine wp_run (k := 5) (pc1 := 73) (l1 := [(0, .ref 55), (1, .int (iN (zi))), (2, .int (iN (0)))]) (st1 := [.ref 1008, .int (iN (zi)), .ref 55]) (kr1 := (78, 76)) (h1 := zS3 zh (zWe F zl zi) (-1) zg) rfl ?_
      refine wp_call (md1 := am_m_Model_isWord) (As := [.ref 55, .int (iN (zi)), .ref 1008]) (rest := []) (kr1 := (78, 76)) rfl (jm_isWord_2 _ (by omega) q_ln q_r q_f q_c (zi := zWe F zl zi) (zb := zi) (by omega)) ?_
      rintro _ _ ⟨rfl, rfl⟩
      refine wp_eqb rfl (fun b_76_24 => ?_) (fun b_76_24 => ?_)
      · refine wp_run (k := 5) (pc1 := 89) (l1 := [(0, .ref 55), (1, .int (iN (zi))), (2, .int (iN (0)))]) (st1 := [.ref 1009, .int (iN (zi)), .ref 55]) (kr1 := (78, 76)) (h1 := zS3 zh (zWe F zl zi) (-1) zg) rfl ?_
        refine wp_call (md1 := am_m_Model_isWord) (As := [.ref 55, .int (iN (zi)), .ref 1009]) (rest := []) (kr1 := (78, 76)) rfl (jm_isWord_3 _ (by omega) q_ln q_r q_f q_c (zi := zWe F zl zi) (zb := zi) (by omega)) ?_
        rintro _ _ ⟨rfl, rfl⟩
        refine wp_eqb rfl (fun b_92_25 => ?_) (fun b_92_25 => ?_)
        · refine wp_run (k := 5) (pc1 := 105) (l1 := [(0, .ref 55), (1, .int (iN (zi))), (2, .int (iN (0)))]) (st1 := [.ref 1010, .int (iN (zi)), .ref 55]) (kr1 := (78, 76)) (h1 := zS3 zh (zWe F zl zi) (-1) zg) rfl ?_
          refine wp_call (md1 := am_m_Model_isWord) (As := [.ref 55, .int (iN (zi)), .ref 1010]) (rest := []) (kr1 := (78, 76)) rfl (jm_isWord_4 _ (by omega) q_ln q_r q_f q_c (zi := zWe F zl zi) (zb := zi) (by omega)) ?_
          rintro _ _ ⟨rfl, rfl⟩
          refine wp_eqb rfl (fun b_108_26 => ?_) (fun b_108_26 => ?_)
          · refine wp_run (k := 5) (pc1 := 121) (l1 := [(0, .ref 55), (1, .int (iN (zi))), (2, .int (iN (0)))]) (st1 := [.ref 1011, .int (iN (zi)), .ref 55]) (kr1 := (78, 76)) (h1 := zS3 zh (zWe F zl zi) (-1) zg) rfl ?_
            refine wp_call (md1 := am_m_Model_isWord) (As := [.ref 55, .int (iN (zi)), .ref 1011]) (rest := []) (kr1 := (78, 76)) rfl (jm_isWord_5 _ (by omega) q_ln q_r q_f q_c (zi := zWe F zl zi) (zb := zi) (by omega)) ?_
            rintro _ _ ⟨rfl, rfl⟩
            refine wp_eqb rfl (fun b_124_27 => ?_) (fun b_124_27 => ?_)
            · refine wp_run (k := 3) (pc1 := 134) (l1 := [(0, .ref 55), (1, .int (iN (zi))), (2, .int (iN (0)))]) (st1 := [.int (iN (0))]) (kr1 := (78, 76)) (h1 := zS3 zh (zWe F zl zi) (-1) zg) rfl ?_
              refine wp_ge0 (a := 0) rfl (by omega) (fun b_134_28 => ?_) (fun b_134_28 => ?_)
              · refine wp_run (k := 1) (pc1 := 144) (l1 := [(0, .ref 55), (1, .int (iN (zi))), (2, .int (iN (0)))]) (st1 := [.int (iN (0))]) (kr1 := (78, 76)) (h1 := zS3 zh (zWe F zl zi) (-1) zg) rfl ?_
                refine wp_ret (rv := some (.int (iN (0)))) rfl ?_
                have y_w : zWw F zi (zWe F zl zi) = 0 := by unfold zWw; rw [if_pos b_44]
                exact ⟨by rw [y_w], fun _ => rfl, fun y => by omega⟩
              · exact absurd b_134_28 (by decide)
            · exact absurd (zMt_u (by decide) (by decide) b_44 b_124_27) (by decide)
          · exact absurd (zMt_u (by decide) (by decide) b_44 b_108_26) (by decide)
        · exact absurd (zMt_u (by decide) (by decide) b_44 b_92_25) (by decide)
      · exact absurd (zMt_u (by decide) (by decide) b_44 b_76_24) (by decide)
    · exact absurd (zMt_u (by decide) (by decide) b_44 b_60_23) (by decide)
set_option maxRecDepth 20000 in
set_option maxHeartbeats 4000000 in
theorem jl_isFig (zd : Nat) (q_d : 2 ≤ zd) {zh : am_H} {F : Int → Int} {zl : Int} {zm : Int} {zU : Int × Int} (q_ln : zh.1 55 9 = iN zl) (q_r : 0 ≤ zl ∧ zl ≤ 120) (q_f : ∀ k : Int, 0 ≤ k → k < zl → zh.1 59 k.toNat = iN (F k)) (q_c : ∀ k : Int, 0 ≤ k → k < zl → 32 ≤ F k ∧ F k ≤ 126) (q_mm : 0 ≤ zm ∧ zm ≤ 3) {zQ : Option Value → am_H → Prop} (zk : zQ (some (.int (iN 1))) (zS3 zh zU.1 (-1) zU.2)) : ∀ (z_n : Nat) (zk0 : Nat) (zp : Int) (zv : Int) (zn : Int) (q_i : 0 ≤ zp ∧ zp ≤ zl) (q_k : (zk0 : Int) = zm - zn ∧ 0 ≤ zn) (q_z : zFg F zl zk0 zp zv = zU), (zk0 : Int) < (z_n : Int) → am_wp zd am_m_Model_isFigure 23 [(0, .ref 55), (1, .int (iN (zm))), (2, .int (iN (zn)))] [] (78, 76) (zS3 zh zp (-1) zv) (78, 76) zQ := by
  obtain ⟨zd, rfl⟩ : ∃ y_e, zd = y_e + 2 := ⟨zd - 2, by omega⟩
  intro z_n
  induction z_n with
  | zero => intro zk0 zp zv zn q_i q_k q_z q_m; omega
  | succ z_n z_ih =>
    intro zk0 zp zv zn q_i q_k q_z q_m
    have y_s := zSg_rg (i := zp) q_c
    refine wp_run (k := 2) (pc1 := 25) (l1 := [(0, .ref 55), (1, .int (iN (zm))), (2, .int (iN (zn)))]) (st1 := [.int (iN (zm)), .int (iN (zn))]) (kr1 := (78, 76)) (h1 := zS3 zh zp (-1) zv) rfl ?_
    refine wp_ge (a := zn) (b := zm) rfl (by omega) (by omega) (fun b_25 => ?_) (fun b_25 => ?_)
    · refine wp_run (k := 1) (pc1 := 71) (l1 := [(0, .ref 55), (1, .int (iN (zm))), (2, .int (iN (zn)))]) (st1 := [.int (iN (1))]) (kr1 := (78, 76)) (h1 := zS3 zh zp (-1) zv) rfl ?_
      refine wp_ret (rv := some (.int (iN (1)))) rfl ?_
      have y_e : zFg F zl zk0 zp zv = (zp, zv) := by
        cases zk0 with
        | zero => rfl
        | succ zk0 => exact if_neg (by omega)
      rw [y_e] at q_z
      rw [← q_z] at zk
      exact zk
    · refine wp_run (k := 1) (pc1 := 29) (l1 := [(0, .ref 55), (1, .int (iN (zm))), (2, .int (iN (zn)))]) (st1 := [.ref 55]) (kr1 := (78, 76)) (h1 := zS3 zh zp (-1) zv) rfl ?_
      refine wp_call (md1 := am_m_Model_isDigit) (As := [.ref 55]) (rest := []) (kr1 := (78, 76)) rfl (jm_digitS _ (by omega) (F := F) (zl := zl) (zi := zp) q_ln q_r q_f q_c (by omega)) ?_
      rintro _ _ ⟨rfl, rfl⟩
      refine wp_eqb rfl (fun b_32 => ?_) (fun b_32 => ?_)
      · refine wp_run (k := 1) (pc1 := 71) (l1 := [(0, .ref 55), (1, .int (iN (zm))), (2, .int (iN (zn)))]) (st1 := [.int (iN (1))]) (kr1 := (78, 76)) (h1 := zS3 zh zp (-1) zv) rfl ?_
        refine wp_ret (rv := some (.int (iN (1)))) rfl ?_
        have y_e : zFg F zl zk0 zp zv = (zp, zv) := by
          cases zk0 with
          | zero => rfl
          | succ zk0 => exact if_neg (by omega)
        rw [y_e] at q_z
        rw [← q_z] at zk
        exact zk
      · refine wp_run (k := 6) (pc1 := 44) (l1 := [(0, .ref 55), (1, .int (iN (zm))), (2, .int (iN (zn)))]) (st1 := [.ref 55, .int (iN ((10) * (zv))), .ref 55]) (kr1 := (78, 76)) (h1 := zS3 zh zp (-1) zv) (Eq.trans (b := (some (44, [(0, .ref 55), (1, .int (iN (zm))), (2, .int (iN (zn)))], [.ref 55, .int ((iN (10)) * ((zS3 zh zp (-1) zv).1 55 11)), .ref 55], (78, 76), zS3 zh zp (-1) zv) : Option am_C)) rfl (by simp only [(show (zS3 zh zp (-1) zv).1 55 11 = iN (zv) from (zS3_a _ _ _ _).2.2), Int32.ofInt_add, Int32.ofInt_sub, Int32.ofInt_mul, Int32.ofInt_neg])) ?_
        refine wp_call (md1 := am_m_Model_here) (As := [.ref 55]) (rest := [.int (iN ((10) * (zv))), .ref 55]) (kr1 := (78, 76)) rfl (jm_hereS _ (F := F) (zl := zl) (zi := zp) q_ln q_r q_f (by omega)) ?_
        rintro _ _ ⟨rfl, rfl⟩
        refine wp_run (k := 3) (pc1 := 51) (l1 := [(0, .ref 55), (1, .int (iN (zm))), (2, .int (iN (zn)))]) (st1 := [.int (iN ((((10) * (zv)) + (zSg F zl (zp))) - (48))), .ref 55]) (kr1 := (78, 76)) (h1 := zS3 zh zp (-1) zv) (Eq.trans (b := (some (51, [(0, .ref 55), (1, .int (iN (zm))), (2, .int (iN (zn)))], [.int (((iN ((10) * (zv))) + (iN (zSg F zl (zp)))) - (iN (48))), .ref 55], (78, 76), zS3 zh zp (-1) zv) : Option am_C)) rfl (by simp only [Int32.ofInt_add, Int32.ofInt_sub, Int32.ofInt_mul, Int32.ofInt_neg])) ?_
        refine wp_run (k := 6) (pc1 := 61) (l1 := [(0, .ref 55), (1, .int (iN (zm))), (2, .int (iN (zn)))]) (st1 := [.int (iN ((zp) + (1))), .ref 55]) (kr1 := (78, 76)) (h1 := am_wr (zS3 zh zp (-1) zv) 55 11 (iN ((((10) * (zv)) + (zSg F zl (zp))) - (48)))) (Eq.trans (b := (some (61, [(0, .ref 55), (1, .int (iN (zm))), (2, .int (iN (zn)))], [.int (((am_wr (zS3 zh zp (-1) zv) 55 11 (iN ((((10) * (zv)) + (zSg F zl (zp))) - (48)))).1 55 8) + (iN (1))), .ref 55], (78, 76), am_wr (zS3 zh zp (-1) zv) 55 11 (iN ((((10) * (zv)) + (zSg F zl (zp))) - (48)))) : Option am_C)) rfl (by simp only [(show (am_wr (zS3 zh zp (-1) zv) 55 11 (iN ((((10) * (zv)) + (zSg F zl (zp))) - (48)))).1 55 8 = iN (zp) from (am_wr_no (by decide)).trans (zS3_a _ _ _ _).1)]; try simp only [Int32.ofInt_add, Int32.ofInt_sub, Int32.ofInt_mul, Int32.ofInt_neg])) ?_
        refine wp_run (k := 3) (pc1 := 23) (l1 := [(0, .ref 55), (1, .int (iN (zm))), (2, .int (iN ((zn) + 1)))]) (st1 := []) (kr1 := (78, 76)) (h1 := am_wr (am_wr (zS3 zh zp (-1) zv) 55 11 (iN ((((10) * (zv)) + (zSg F zl (zp))) - (48)))) 55 8 (iN ((zp) + (1)))) (Eq.trans (b := (some (23, [(0, .ref 55), (1, .int (iN (zm))), (2, .int ((iN (zn)) + iN (1)))], [], (78, 76), am_wr (am_wr (zS3 zh zp (-1) zv) 55 11 (iN ((((10) * (zv)) + (zSg F zl (zp))) - (48)))) 55 8 (iN ((zp) + (1)))) : Option am_C)) rfl (by simp only [Int32.ofInt_add, Int32.ofInt_sub, Int32.ofInt_mul, Int32.ofInt_neg])) ?_
        obtain ⟨zk1, y_k⟩ : ∃ y, zk0 = y + 1 := ⟨zk0 - 1, by omega⟩
        subst y_k
        rw [zS3_11, zS3_8, show 10 * zv + zSg F zl zp - 48 = 10 * zv + (zSg F zl zp - 48) by omega]
        refine z_ih zk1 (zp + 1) (10 * zv + (zSg F zl zp - 48)) (zn + 1) (by omega) (by omega) ?_ (by omega)
        rw [← q_z]
        exact (if_pos (show 48 ≤ zSg F zl zp ∧ zSg F zl zp ≤ 57 by omega)).symm
set_option maxRecDepth 20000 in
set_option maxHeartbeats 4000000 in
theorem jm_isFig2 (zd : Nat) (q_d : 2 ≤ zd) {zh : am_H} {F : Int → Int} {zl : Int} {zi zg : Int} (q_ln : zh.1 55 9 = iN zl) (q_r : 0 ≤ zl ∧ zl ≤ 120) (q_f : ∀ k : Int, 0 ≤ k → k < zl → zh.1 59 k.toNat = iN (F k)) (q_c : ∀ k : Int, 0 ≤ k → k < zl → 32 ≤ F k ∧ F k ≤ 126) (q_i : 0 ≤ zi ∧ zi ≤ zl) : am_wp zd am_m_Model_isFigure 0 [(0, .ref 55), (1, .int (iN (2)))] [] (78, 76) (zS3 zh zi (-1) zg) (78, 76) (fun rv h' => rv = some (.int (iN (bI (zi < (zFg F zl 2 zi 0).1) inferInstance))) ∧ (zi < (zFg F zl 2 zi 0).1 → zS3 zh (zFg F zl 2 zi 0).1 (-1) (zFg F zl 2 zi 0).2 = h') ∧ (¬ zi < (zFg F zl 2 zi 0).1 → zS3 zh zi zi zg = h')) := by
  obtain ⟨zd, rfl⟩ : ∃ y_e, zd = y_e + 2 := ⟨zd - 2, by omega⟩
  have y_s := zSg_rg (i := zi) q_c
  refine wp_run (k := 1) (pc1 := 1) (l1 := [(0, .ref 55), (1, .int (iN (2)))]) (st1 := [.ref 55]) (kr1 := (78, 76)) (h1 := zS3 zh zi (-1) zg) rfl ?_
  refine wp_call (md1 := am_m_Model_isDigit) (As := [.ref 55]) (rest := []) (kr1 := (78, 76)) rfl (jm_digitS _ (by omega) (F := F) (zl := zl) (zi := zi) q_ln q_r q_f q_c (by omega)) ?_
  rintro _ _ ⟨rfl, rfl⟩
  refine wp_neb rfl (fun b_4 => ?_) (fun b_4 => ?_)
  · refine wp_run (k := 5) (pc1 := 23) (l1 := [(0, .ref 55), (1, .int (iN (2))), (2, .int (iN (0)))]) (st1 := []) (kr1 := (78, 76)) (h1 := am_wr (zS3 zh zi (-1) zg) 55 11 (iN (0))) rfl ?_
    rw [zS3_11]
    have y_r := zFg_rg (F := F) (L := zl) 1 (zi + 1) (10 * 0 + (zSg F zl zi - 48)) (by omega)
    have y_F : zFg F zl 2 zi 0 = zFg F zl 1 (zi + 1) (10 * 0 + (zSg F zl zi - 48)) := if_pos (show 48 ≤ zSg F zl zi ∧ zSg F zl zi ≤ 57 by omega)
    exact jl_isFig (zm := 2) _ (by omega) q_ln q_r q_f q_c (by omega) ⟨by rw [show bI (zi < (zFg F zl 2 zi 0).1) inferInstance = 1 from if_pos (by rw [y_F]; omega)], fun _ => rfl, fun y => absurd (by rw [y_F]; omega) y⟩ 20 2 zi 0 0 (by omega) (by omega) rfl (by omega)
  · refine wp_run (k := 3) (pc1 := 12) (l1 := [(0, .ref 55), (1, .int (iN (2)))]) (st1 := [.int (iN (zi)), .ref 55]) (kr1 := (78, 76)) (h1 := zS3 zh zi (-1) zg) (Eq.trans (b := (some (12, [(0, .ref 55), (1, .int (iN (2)))], [.int ((zS3 zh zi (-1) zg).1 55 8), .ref 55], (78, 76), zS3 zh zi (-1) zg) : Option am_C)) rfl (by simp only [(show (zS3 zh zi (-1) zg).1 55 8 = iN (zi) from (zS3_a _ _ _ _).1), Int32.ofInt_add, Int32.ofInt_sub, Int32.ofInt_mul, Int32.ofInt_neg])) ?_
    refine wp_call (md1 := am_m_Model_fails) (As := [.ref 55, .int (iN (zi))]) (rest := []) (kr1 := (78, 76)) rfl (jm_fails _ (by omega) (zh := zh) (zx := zi) (zp := zi) (zg := zg)) ?_
    rintro _ _ ⟨rfl, rfl⟩
    refine wp_ret (rv := some (.int (iN (0)))) rfl ?_
    have y_F : zFg F zl 2 zi 0 = (zi, 0) := if_neg (by omega)
    rw [y_F]
    exact ⟨by rw [show bI (zi < zi) inferInstance = 0 from if_neg (by omega)], fun y => absurd y (by omega), fun _ => rfl⟩
set_option maxRecDepth 20000 in
set_option maxHeartbeats 4000000 in
theorem jm_isFig3 (zd : Nat) (q_d : 2 ≤ zd) {zh : am_H} {F : Int → Int} {zl : Int} {zi zg : Int} (q_ln : zh.1 55 9 = iN zl) (q_r : 0 ≤ zl ∧ zl ≤ 120) (q_f : ∀ k : Int, 0 ≤ k → k < zl → zh.1 59 k.toNat = iN (F k)) (q_c : ∀ k : Int, 0 ≤ k → k < zl → 32 ≤ F k ∧ F k ≤ 126) (q_i : 0 ≤ zi ∧ zi ≤ zl) : am_wp zd am_m_Model_isFigure 0 [(0, .ref 55), (1, .int (iN (3)))] [] (78, 76) (zS3 zh zi (-1) zg) (78, 76) (fun rv h' => rv = some (.int (iN (bI (zi < (zFg F zl 3 zi 0).1) inferInstance))) ∧ (zi < (zFg F zl 3 zi 0).1 → zS3 zh (zFg F zl 3 zi 0).1 (-1) (zFg F zl 3 zi 0).2 = h') ∧ (¬ zi < (zFg F zl 3 zi 0).1 → zS3 zh zi zi zg = h')) := by
  obtain ⟨zd, rfl⟩ : ∃ y_e, zd = y_e + 2 := ⟨zd - 2, by omega⟩
  have y_s := zSg_rg (i := zi) q_c
  refine wp_run (k := 1) (pc1 := 1) (l1 := [(0, .ref 55), (1, .int (iN (3)))]) (st1 := [.ref 55]) (kr1 := (78, 76)) (h1 := zS3 zh zi (-1) zg) rfl ?_
  refine wp_call (md1 := am_m_Model_isDigit) (As := [.ref 55]) (rest := []) (kr1 := (78, 76)) rfl (jm_digitS _ (by omega) (F := F) (zl := zl) (zi := zi) q_ln q_r q_f q_c (by omega)) ?_
  rintro _ _ ⟨rfl, rfl⟩
  refine wp_neb rfl (fun b_4 => ?_) (fun b_4 => ?_)
  · refine wp_run (k := 5) (pc1 := 23) (l1 := [(0, .ref 55), (1, .int (iN (3))), (2, .int (iN (0)))]) (st1 := []) (kr1 := (78, 76)) (h1 := am_wr (zS3 zh zi (-1) zg) 55 11 (iN (0))) rfl ?_
    rw [zS3_11]
    have y_r := zFg_rg (F := F) (L := zl) 2 (zi + 1) (10 * 0 + (zSg F zl zi - 48)) (by omega)
    have y_F : zFg F zl 3 zi 0 = zFg F zl 2 (zi + 1) (10 * 0 + (zSg F zl zi - 48)) := if_pos (show 48 ≤ zSg F zl zi ∧ zSg F zl zi ≤ 57 by omega)
    exact jl_isFig (zm := 3) _ (by omega) q_ln q_r q_f q_c (by omega) ⟨by rw [show bI (zi < (zFg F zl 3 zi 0).1) inferInstance = 1 from if_pos (by rw [y_F]; omega)], fun _ => rfl, fun y => absurd (by rw [y_F]; omega) y⟩ 20 3 zi 0 0 (by omega) (by omega) rfl (by omega)
  · refine wp_run (k := 3) (pc1 := 12) (l1 := [(0, .ref 55), (1, .int (iN (3)))]) (st1 := [.int (iN (zi)), .ref 55]) (kr1 := (78, 76)) (h1 := zS3 zh zi (-1) zg) (Eq.trans (b := (some (12, [(0, .ref 55), (1, .int (iN (3)))], [.int ((zS3 zh zi (-1) zg).1 55 8), .ref 55], (78, 76), zS3 zh zi (-1) zg) : Option am_C)) rfl (by simp only [(show (zS3 zh zi (-1) zg).1 55 8 = iN (zi) from (zS3_a _ _ _ _).1), Int32.ofInt_add, Int32.ofInt_sub, Int32.ofInt_mul, Int32.ofInt_neg])) ?_
    refine wp_call (md1 := am_m_Model_fails) (As := [.ref 55, .int (iN (zi))]) (rest := []) (kr1 := (78, 76)) rfl (jm_fails _ (by omega) (zh := zh) (zx := zi) (zp := zi) (zg := zg)) ?_
    rintro _ _ ⟨rfl, rfl⟩
    refine wp_ret (rv := some (.int (iN (0)))) rfl ?_
    have y_F : zFg F zl 3 zi 0 = (zi, 0) := if_neg (by omega)
    rw [y_F]
    exact ⟨by rw [show bI (zi < zi) inferInstance = 0 from if_neg (by omega)], fun y => absurd y (by omega), fun _ => rfl⟩
set_option maxRecDepth 20000 in
set_option maxHeartbeats 4000000 in
theorem jm_period (zd : Nat) (q_d : 3 ≤ zd) {zh : am_H} {F : Int → Int} {zl : Int} {N : Int} {G : Int → Int → Int} {S T zi zg : Int} (q_ln : zh.1 55 9 = iN zl) (q_r : 0 ≤ zl ∧ zl ≤ 120) (q_f : ∀ k : Int, 0 ≤ k → k < zl → zh.1 59 k.toNat = iN (F k)) (q_c : ∀ k : Int, 0 ≤ k → k < zl → 32 ≤ F k ∧ F k ≤ 126) (q_i : 0 ≤ zi ∧ zi ≤ zl) (q_nm : zMm (zh.1 55) (zh.1 56) N G S T) (q_g : zGk N G S T) : am_wp zd am_m_Model_periodHere 0 [(0, .ref 55)] [] (78, 76) (zS3 zh zi (-1) zg) (78, 76) (fun rv h' => ∃ zr : Int, rv = some (.int (iN zr)) ∧ ((zPd F zl N zi).1 = 1 → zr = (zPd F zl N zi).2.1 ∧ ∃ g : Int, zS3 zh (zPd F zl N zi).2.2 (-1) g = h') ∧ (¬ (zPd F zl N zi).1 = 1 → zr = -2 ∧ ∃ x g : Int, zS3 zh x (zPd F zl N zi).2.2 g = h')) := by
  obtain ⟨zd, rfl⟩ : ∃ y_e, zd = y_e + 3 := ⟨zd - 3, by omega⟩
  have q_N := q_g.1
  have y_s := zSg_rg (i := zi) q_c
  refine wp_run (k := 1) (pc1 := 1) (l1 := [(0, .ref 55)]) (st1 := [.ref 55]) (kr1 := (78, 76)) (h1 := zS3 zh zi (-1) zg) rfl ?_
  refine wp_call (md1 := am_m_Model_here) (As := [.ref 55]) (rest := []) (kr1 := (78, 76)) rfl (jm_hereS _ (F := F) (zl := zl) (zi := zi) q_ln q_r q_f (by omega)) ?_
  rintro _ _ ⟨rfl, rfl⟩
  refine wp_run (k := 1) (pc1 := 6) (l1 := [(0, .ref 55)]) (st1 := [.int (iN (42)), .int (iN (zSg F zl (zi)))]) (kr1 := (78, 76)) (h1 := zS3 zh zi (-1) zg) rfl ?_
  refine wp_ne (a := zSg F zl (zi)) (b := 42) rfl (by omega) (by omega) (fun b_6 => ?_) (fun b_6 => ?_)
  · refine wp_run (k := 5) (pc1 := 28) (l1 := [(0, .ref 55), (1, .int (iN (zi)))]) (st1 := [.int (iN (2)), .ref 55]) (kr1 := (78, 76)) (h1 := zS3 zh zi (-1) zg) (Eq.trans (b := (some (28, [(0, .ref 55), (1, .int ((zS3 zh zi (-1) zg).1 55 8))], [.int (iN (2)), .ref 55], (78, 76), zS3 zh zi (-1) zg) : Option am_C)) rfl (by simp only [(show (zS3 zh zi (-1) zg).1 55 8 = iN (zi) from (zS3_a _ _ _ _).1), Int32.ofInt_add, Int32.ofInt_sub, Int32.ofInt_mul, Int32.ofInt_neg])) ?_
    refine wp_call (md1 := am_m_Model_isFigure) (As := [.ref 55, .int (iN (2))]) (rest := []) (kr1 := (78, 76)) rfl (jm_isFig2 _ (by omega) q_ln q_r q_f q_c q_i) ?_
    rintro _ zg1 ⟨rfl, q_x1, q_y1⟩
    have y_g := zFg_rg (F := F) (L := zl) 2 zi 0 (Int.le_refl _)
    have y_b := zFg_b2 (F := F) (L := zl) zi 0 (Int.le_refl _)
    refine wp_neb rfl (fun b_31 => ?_) (fun b_31 => ?_)
    · rw [← q_x1 (by omega)]
      refine wp_run (k := 3) (pc1 := 42) (l1 := [(0, .ref 55), (1, .int (iN (zi)))]) (st1 := [.int (iN ((zFg F zl 2 zi 0).2)), .ref 55]) (kr1 := (78, 76)) (h1 := zS3 zh ((zFg F zl 2 zi 0).1) (-1) ((zFg F zl 2 zi 0).2)) (Eq.trans (b := (some (42, [(0, .ref 55), (1, .int (iN (zi)))], [.int ((zS3 zh ((zFg F zl 2 zi 0).1) (-1) ((zFg F zl 2 zi 0).2)).1 55 11), .ref 55], (78, 76), zS3 zh ((zFg F zl 2 zi 0).1) (-1) ((zFg F zl 2 zi 0).2)) : Option am_C)) rfl (by simp only [(show (zS3 zh ((zFg F zl 2 zi 0).1) (-1) ((zFg F zl 2 zi 0).2)).1 55 11 = iN ((zFg F zl 2 zi 0).2) from (zS3_a _ _ _ _).2.2), Int32.ofInt_add, Int32.ofInt_sub, Int32.ofInt_mul, Int32.ofInt_neg])) ?_
      refine wp_call (md1 := am_m_Model_isPeriod) (As := [.ref 55, .int (iN ((zFg F zl 2 zi 0).2))]) (rest := []) (kr1 := (78, 76)) rfl (jm_isPeriod _ (by omega) (zMm_g (fo' := (zS3 zh ((zFg F zl 2 zi 0).1) (-1) ((zFg F zl 2 zi 0).2)).1 55) (fc' := (zS3 zh ((zFg F zl 2 zi 0).1) (-1) ((zFg F zl 2 zi 0).2)).1 56) q_nm (zS3_s _ _ _ _ (by decide) (by decide) (by decide)) (zS3_c _ _ _ _ (by decide))) q_g (zp := (zFg F zl 2 zi 0).2) (by omega)) ?_
      rintro _ _ ⟨rfl, rfl⟩
      refine wp_neb rfl (fun b_45 => ?_) (fun b_45 => ?_)
      · refine wp_run (k := 2) (pc1 := 61) (l1 := [(0, .ref 55), (1, .int (iN (zi)))]) (st1 := [.int (iN ((zFg F zl 2 zi 0).2))]) (kr1 := (78, 76)) (h1 := zS3 zh ((zFg F zl 2 zi 0).1) (-1) ((zFg F zl 2 zi 0).2)) (Eq.trans (b := (some (61, [(0, .ref 55), (1, .int (iN (zi)))], [.int ((zS3 zh ((zFg F zl 2 zi 0).1) (-1) ((zFg F zl 2 zi 0).2)).1 55 11)], (78, 76), zS3 zh ((zFg F zl 2 zi 0).1) (-1) ((zFg F zl 2 zi 0).2)) : Option am_C)) rfl (by simp only [(show (zS3 zh ((zFg F zl 2 zi 0).1) (-1) ((zFg F zl 2 zi 0).2)).1 55 11 = iN ((zFg F zl 2 zi 0).2) from (zS3_a _ _ _ _).2.2), Int32.ofInt_add, Int32.ofInt_sub, Int32.ofInt_mul, Int32.ofInt_neg])) ?_
        refine wp_ret (rv := some (.int (iN ((zFg F zl 2 zi 0).2)))) rfl ?_
        have y_P : zPd F zl N zi = (1, (zFg F zl 2 zi 0).2, (zFg F zl 2 zi 0).1) := (if_neg (by omega)).trans (if_pos (by omega))
        rw [y_P]
        exact ⟨_, rfl, fun _ => ⟨rfl, _, rfl⟩, fun y => absurd rfl y⟩
      · refine wp_run (k := 2) (pc1 := 50) (l1 := [(0, .ref 55), (1, .int (iN (zi)))]) (st1 := [.int (iN (zi)), .ref 55]) (kr1 := (78, 76)) (h1 := zS3 zh ((zFg F zl 2 zi 0).1) (-1) ((zFg F zl 2 zi 0).2)) rfl ?_
        refine wp_call (md1 := am_m_Model_fails) (As := [.ref 55, .int (iN (zi))]) (rest := []) (kr1 := (78, 76)) rfl (jm_fails _ (by omega) (zh := zh) (zx := (zFg F zl 2 zi 0).1) (zp := zi) (zg := (zFg F zl 2 zi 0).2)) ?_
        rintro _ _ ⟨rfl, rfl⟩
        refine wp_run (k := 2) (pc1 := 56) (l1 := [(0, .ref 55), (1, .int (iN (zi)))]) (st1 := [.int (iN (-2))]) (kr1 := (78, 76)) (h1 := zS3 zh ((zFg F zl 2 zi 0).1) (zi) ((zFg F zl 2 zi 0).2)) rfl ?_
        refine wp_ret (rv := some (.int (iN (-2)))) rfl ?_
        have y_P : zPd F zl N zi = (0, 0, zi) := (if_neg (by omega)).trans (if_neg (by omega))
        rw [y_P]
        exact ⟨_, rfl, fun y => absurd (show (0 : Int) = 1 from y) (by decide), fun _ => ⟨rfl, _, _, rfl⟩⟩
    · refine wp_run (k := 1) (pc1 := 36) (l1 := [(0, .ref 55), (1, .int (iN (zi)))]) (st1 := [.int (iN (-2))]) (kr1 := (78, 76)) (h1 := zg1) rfl ?_
      refine wp_ret (rv := some (.int (iN (-2)))) rfl ?_
      have y_P : zPd F zl N zi = (0, 0, zi) := (if_neg (by omega)).trans (if_neg (by omega))
      rw [y_P]
      exact ⟨_, rfl, fun y => absurd (show (0 : Int) = 1 from y) (by decide), fun _ => ⟨rfl, zi, zg, q_y1 (by omega)⟩⟩
  · refine wp_run (k := 5) (pc1 := 16) (l1 := [(0, .ref 55)]) (st1 := [.int (iN ((zi) + (1))), .ref 55]) (kr1 := (78, 76)) (h1 := zS3 zh zi (-1) zg) (Eq.trans (b := (some (16, [(0, .ref 55)], [.int (((zS3 zh zi (-1) zg).1 55 8) + (iN (1))), .ref 55], (78, 76), zS3 zh zi (-1) zg) : Option am_C)) rfl (by simp only [(show (zS3 zh zi (-1) zg).1 55 8 = iN (zi) from (zS3_a _ _ _ _).1), Int32.ofInt_add, Int32.ofInt_sub, Int32.ofInt_mul, Int32.ofInt_neg])) ?_
    refine wp_run (k := 2) (pc1 := 20) (l1 := [(0, .ref 55)]) (st1 := [.int (iN (-1))]) (kr1 := (78, 76)) (h1 := am_wr (zS3 zh zi (-1) zg) 55 8 (iN ((zi) + (1)))) rfl ?_
    refine wp_ret (rv := some (.int (iN (-1)))) rfl ?_
    have y_P : zPd F zl N zi = (1, -1, zi + 1) := if_pos (by omega)
    rw [y_P, zS3_8]
    exact ⟨_, rfl, fun _ => ⟨rfl, zg, rfl⟩, fun y => absurd rfl y⟩
