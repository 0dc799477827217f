/-! THE REFERENCE's bounded -/
def zH2 (zh : am_H) (a : Int) (s : Int × Int) : am_H := am_wr (am_wr zh 69 a.toNat (iN s.1)) 70 a.toNat (iN s.2)
theorem zH2_w (zh : am_H) (a : Int) (s : Int × Int) (v b : Int) : am_wr (am_wr (zH2 zh a s) 69 a.toNat (iN v)) 70 a.toNat (iN b) = zH2 zh a (v, b) := by
  unfold zH2
  rw [am_wr_sw _ (show 70 ≠ 69 by decide), am_wr_wr, am_wr_wr]
theorem zH2_0 (zh : am_H) (a v : Int) : am_wr zh 69 a.toNat (iN v) = zH2 zh a (v, (zh.1 70 a.toNat).toInt) := by
  unfold zH2
  dsimp only
  rw [iN_self, am_wr_sw _ (show 69 ≠ 70 by decide), am_wr_id]
theorem zH2_fr (zh : am_H) (a : Int) (s : Int × Int) : am_fr [69, 70] zh (zH2 zh a s) := am_fr_w (am_fr_w (am_fr_0 _ _) (by decide) _ _) (by decide) _ _
theorem zH2_1 (zh : am_H) (a : Int) (s : Int × Int) : (zH2 zh a s).1 69 a.toNat = iN s.1 := by
  unfold zH2
  rw [am_wr_ne (by decide), am_wr_at]
theorem zH2_2 (zh : am_H) (a : Int) (s : Int × Int) : (zH2 zh a s).1 70 a.toNat = iN s.2 := by
  unfold zH2
  rw [am_wr_at]
theorem zH2_o (zh : am_H) (a : Int) (s : Int × Int) {x : Nat} (q : x ≠ a.toNat) : (zH2 zh a s).1 69 x = zh.1 69 x ∧ (zH2 zh a s).1 70 x = zh.1 70 x := by
  unfold zH2
  refine ⟨?_, ?_⟩
  · rw [am_wr_ne (by decide), am_wr_no q]
  · rw [am_wr_no q, am_wr_ne (by decide)]
set_option maxRecDepth 20000 in
set_option maxHeartbeats 4000000 in
theorem jm_behindOne (zd : Nat) (q_d : 2 ≤ zd) {zh : am_H} {N : Int} {G : Int → Int → Int} {S T : Int} {zp zc zv : Int} (q_nm : zMm (zh.1 55) (zh.1 56) N G S T) (q_g : zGk N G S T) (q_p : 0 ≤ zp ∧ zp < N) (q_c : 0 ≤ zc ∧ zc ≤ 120) (q_v : zh.1 69 (121 * (zp + 1) + zc).toNat = iN zv) (q_r : 0 ≤ zv ∧ zv ≤ 1000000000) : am_wp zd am_m_Model_behindOne 0 [(0, .ref 55), (1, .int (iN (zp))), (2, .int (iN (zc)))] [] (78, 76) zh (78, 76) (fun rv h' => rv = some (.int (iN (zBa G S T zp zc zv))) ∧ zh = h') := by
  obtain ⟨zd, rfl⟩ : ∃ y_e, zd = y_e + 2 := ⟨zd - 2, by omega⟩
  have q_N := q_g.1
  have y_d := zD_rg q_g (a := 0) (b := zp) (by omega) (by omega) (by omega)
  have q_S := q_g.2.2.1
  have q_T := q_g.2.2.2
  refine wp_run (k := 4) (pc1 := 4) (l1 := [(0, .ref 55), (1, .int (iN (zp))), (2, .int (iN (zc)))]) (st1 := [.int (iN (zp)), .int (iN (0)), .ref 55, .int (iN (zc))]) (kr1 := (78, 76)) (h1 := zh) rfl ?_
  refine wp_call (md1 := am_m_Model_demand) (As := [.ref 55, .int (iN (0)), .int (iN (zp))]) (rest := [.int (iN (zc))]) (kr1 := (78, 76)) rfl (jm_demand _ (by omega) q_nm q_g (za := 0) (zb := zp) (by omega)) ?_
  rintro _ _ ⟨rfl, rfl⟩
  refine wp_run (k := 6) (pc1 := 16) (l1 := [(0, .ref 55), (1, .int (iN (zp))), (2, .int (iN (zc))), (3, .int (iN ((zc) - (zD G (0) (zp)))))]) (st1 := [.int (iN (96)), .ref 56, .int (iN ((zc) - (zD G (0) (zp))))]) (kr1 := (78, 76)) (h1 := zh) (Eq.trans (b := (some (16, [(0, .ref 55), (1, .int (iN (zp))), (2, .int (iN (zc))), (3, .int ((iN (zc)) - (iN (zD G (0) (zp)))))], [.int (iN (96)), .ref 56, .int ((iN (zc)) - (iN (zD G (0) (zp))))], (78, 76), zh) : Option am_C)) rfl (by simp only [Int32.ofInt_add, Int32.ofInt_sub, Int32.ofInt_mul, Int32.ofInt_neg])) ?_
  refine wp_iald (f := zh.1 56) (z := 96) (j := 96) (n := 98) (v := iN S) rfl rfl (by omega) (by omega) (by decide) (q_nm.2.2.1) ?_
  refine wp_gt (a := (zc) - (zD G (0) (zp))) (b := S) rfl (by omega) (by omega) (fun b_17 => ?_) (fun b_17 => ?_)
  · refine wp_run (k := 1) (pc1 := 33) (l1 := [(0, .ref 55), (1, .int (iN (zp))), (2, .int (iN (zc))), (3, .int (iN ((zc) - (zD G (0) (zp)))))]) (st1 := [.int (iN (1000000000))]) (kr1 := (78, 76)) (h1 := zh) rfl ?_
    refine wp_ret (rv := some (.int (iN (1000000000)))) rfl ?_
    exact ⟨by rw [show zBa G S T zp zc zv = 1000000000 from by unfold zBa; rw [if_neg (by omega)]], rfl⟩
  · refine wp_run (k := 1) (pc1 := 21) (l1 := [(0, .ref 55), (1, .int (iN (zp))), (2, .int (iN (zc))), (3, .int (iN ((zc) - (zD G (0) (zp)))))]) (st1 := [.int (iN ((zc) - (zD G (0) (zp))))]) (kr1 := (78, 76)) (h1 := zh) rfl ?_
    refine wp_ge0 (a := (zc) - (zD G (0) (zp))) rfl (by omega) (fun b_21 => ?_) (fun b_21 => ?_)
    · refine wp_run (k := 9) (pc1 := 46) (l1 := [(0, .ref 55), (1, .int (iN (zp))), (2, .int (iN (zc))), (3, .int (iN ((zc) - (zD G (0) (zp)))))]) (st1 := [.int (iN (((121) * ((zp) + (1))) + (zc))), .ref 69]) (kr1 := (78, 76)) (h1 := zh) (Eq.trans (b := (some (46, [(0, .ref 55), (1, .int (iN (zp))), (2, .int (iN (zc))), (3, .int (iN ((zc) - (zD G (0) (zp)))))], [.int (((iN (121)) * ((iN (zp)) + (iN (1)))) + (iN (zc))), .ref 69], (78, 76), zh) : Option am_C)) rfl (by simp only [Int32.ofInt_add, Int32.ofInt_sub, Int32.ofInt_mul, Int32.ofInt_neg])) ?_
      refine wp_iald (f := zh.1 69) (z := ((121) * ((zp) + (1))) + (zc)) (j := (121 * (zp + 1) + zc).toNat) (n := 2057) (v := iN zv) rfl rfl (by omega) (by omega) (by decide) (q_v) ?_
      refine wp_run (k := 3) (pc1 := 53) (l1 := [(0, .ref 55), (1, .int (iN (zp))), (2, .int (iN (zc))), (3, .int (iN ((zc) - (zD G (0) (zp))))), (4, .int (iN (zv)))]) (st1 := [.int (iN (1000000000)), .int (iN (zv))]) (kr1 := (78, 76)) (h1 := zh) (Eq.trans (b := (some (53, [(0, .ref 55), (1, .int (iN (zp))), (2, .int (iN (zc))), (3, .int (iN ((zc) - (zD G (0) (zp))))), (4, .int (iN zv))], [.int (iN (1000000000)), .int (iN zv)], (78, 76), zh) : Option am_C)) rfl (by simp only [Int32.ofInt_add, Int32.ofInt_sub, Int32.ofInt_mul, Int32.ofInt_neg])) ?_
      refine wp_lt (a := zv) (b := 1000000000) rfl (by omega) (by omega) (fun b_53 => ?_) (fun b_53 => ?_)
      · refine wp_run (k := 2) (pc1 := 64) (l1 := [(0, .ref 55), (1, .int (iN (zp))), (2, .int (iN (zc))), (3, .int (iN ((zc) - (zD G (0) (zp))))), (4, .int (iN (zv)))]) (st1 := [.int (iN ((zc) - (zD G (0) (zp)))), .int (iN (zv))]) (kr1 := (78, 76)) (h1 := zh) rfl ?_
        refine wp_le0 (a := (zc) - (zD G (0) (zp))) rfl (by omega) (fun b_64 => ?_) (fun b_64 => ?_)
        · refine wp_run (k := 3) (pc1 := 81) (l1 := [(0, .ref 55), (1, .int (iN (zp))), (2, .int (iN (zc))), (3, .int (iN ((zc) - (zD G (0) (zp))))), (4, .int (iN (zv)))]) (st1 := [.int (iN (zp)), .int (iN (4)), .ref 55, .int (iN (zv))]) (kr1 := (78, 76)) (h1 := zh) rfl ?_
          refine wp_call (md1 := am_m_Model_num) (As := [.ref 55, .int (iN (4)), .int (iN (zp))]) (rest := [.int (iN (zv))]) (kr1 := (78, 76)) rfl (jm_num _ (by omega) q_nm q_g (zw := 4) (zp := zp) (by omega) (by omega)) ?_
          rintro _ _ ⟨rfl, rfl⟩
          refine wp_run (k := 4) (pc1 := 88) (l1 := [(0, .ref 55), (1, .int (iN (zp))), (2, .int (iN (zc))), (3, .int (iN ((zc) - (zD G (0) (zp))))), (4, .int (iN (zv)))]) (st1 := [.int (iN ((zv) + ((-(G (4) (zp))) * ((zc) - (zD G (0) (zp))))))]) (kr1 := (78, 76)) (h1 := zh) (Eq.trans (b := (some (88, [(0, .ref 55), (1, .int (iN (zp))), (2, .int (iN (zc))), (3, .int (iN ((zc) - (zD G (0) (zp))))), (4, .int (iN (zv)))], [.int ((iN (zv)) + ((-(iN (G (4) (zp)))) * (iN ((zc) - (zD G (0) (zp))))))], (78, 76), zh) : Option am_C)) rfl (by simp only [Int32.ofInt_add, Int32.ofInt_sub, Int32.ofInt_mul, Int32.ofInt_neg])) ?_
          refine wp_ret (rv := some (.int (iN ((zv) + ((-(G (4) (zp))) * ((zc) - (zD G (0) (zp)))))))) rfl ?_
          exact ⟨by rw [show zBa G S T zp zc zv = (zv) + ((-(G (4) (zp))) * ((zc) - (zD G (0) (zp)))) from by unfold zBa; rw [if_pos (by omega)]; unfold zSc; rw [if_neg (by omega), Int.mul_comm, Int.neg_mul, Int.mul_neg]], rfl⟩
        · refine wp_run (k := 3) (pc1 := 70) (l1 := [(0, .ref 55), (1, .int (iN (zp))), (2, .int (iN (zc))), (3, .int (iN ((zc) - (zD G (0) (zp))))), (4, .int (iN (zv)))]) (st1 := [.int (iN (zp)), .int (iN (3)), .ref 55, .int (iN (zv))]) (kr1 := (78, 76)) (h1 := zh) rfl ?_
          refine wp_call (md1 := am_m_Model_num) (As := [.ref 55, .int (iN (3)), .int (iN (zp))]) (rest := [.int (iN (zv))]) (kr1 := (78, 76)) rfl (jm_num _ (by omega) q_nm q_g (zw := 3) (zp := zp) (by omega) (by omega)) ?_
          rintro _ _ ⟨rfl, rfl⟩
          refine wp_run (k := 4) (pc1 := 88) (l1 := [(0, .ref 55), (1, .int (iN (zp))), (2, .int (iN (zc))), (3, .int (iN ((zc) - (zD G (0) (zp))))), (4, .int (iN (zv)))]) (st1 := [.int (iN ((zv) + ((G (3) (zp)) * ((zc) - (zD G (0) (zp))))))]) (kr1 := (78, 76)) (h1 := zh) (Eq.trans (b := (some (88, [(0, .ref 55), (1, .int (iN (zp))), (2, .int (iN (zc))), (3, .int (iN ((zc) - (zD G (0) (zp))))), (4, .int (iN (zv)))], [.int ((iN (zv)) + ((iN (G (3) (zp))) * (iN ((zc) - (zD G (0) (zp))))))], (78, 76), zh) : Option am_C)) rfl (by simp only [Int32.ofInt_add, Int32.ofInt_sub, Int32.ofInt_mul, Int32.ofInt_neg])) ?_
          refine wp_ret (rv := some (.int (iN ((zv) + ((G (3) (zp)) * ((zc) - (zD G (0) (zp)))))))) rfl ?_
          exact ⟨by rw [show zBa G S T zp zc zv = (zv) + ((G (3) (zp)) * ((zc) - (zD G (0) (zp)))) from by unfold zBa; rw [if_pos (by omega)]; unfold zSc; rw [if_pos (by omega), Int.mul_comm]], rfl⟩
      · refine wp_run (k := 2) (pc1 := 88) (l1 := [(0, .ref 55), (1, .int (iN (zp))), (2, .int (iN (zc))), (3, .int (iN ((zc) - (zD G (0) (zp))))), (4, .int (iN (zv)))]) (st1 := [.int (iN (1000000000))]) (kr1 := (78, 76)) (h1 := zh) rfl ?_
        refine wp_ret (rv := some (.int (iN (1000000000)))) rfl ?_
        exact ⟨by rw [show zBa G S T zp zc zv = 1000000000 from by unfold zBa; rw [if_neg (by omega)]], rfl⟩
    · refine wp_run (k := 1) (pc1 := 25) (l1 := [(0, .ref 55), (1, .int (iN (zp))), (2, .int (iN (zc))), (3, .int (iN ((zc) - (zD G (0) (zp)))))]) (st1 := [.ref 55]) (kr1 := (78, 76)) (h1 := zh) rfl ?_
      refine wp_call (md1 := am_m_Model_isLate) (As := [.ref 55]) (rest := []) (kr1 := (78, 76)) rfl (jm_isLate _ (by omega) q_nm q_g) ?_
      rintro _ _ ⟨rfl, rfl⟩
      refine wp_neb rfl (fun b_28 => ?_) (fun b_28 => ?_)
      · refine wp_run (k := 9) (pc1 := 46) (l1 := [(0, .ref 55), (1, .int (iN (zp))), (2, .int (iN (zc))), (3, .int (iN ((zc) - (zD G (0) (zp)))))]) (st1 := [.int (iN (((121) * ((zp) + (1))) + (zc))), .ref 69]) (kr1 := (78, 76)) (h1 := zh) (Eq.trans (b := (some (46, [(0, .ref 55), (1, .int (iN (zp))), (2, .int (iN (zc))), (3, .int (iN ((zc) - (zD G (0) (zp)))))], [.int (((iN (121)) * ((iN (zp)) + (iN (1)))) + (iN (zc))), .ref 69], (78, 76), zh) : Option am_C)) rfl (by simp only [Int32.ofInt_add, Int32.ofInt_sub, Int32.ofInt_mul, Int32.ofInt_neg])) ?_
        refine wp_iald (f := zh.1 69) (z := ((121) * ((zp) + (1))) + (zc)) (j := (121 * (zp + 1) + zc).toNat) (n := 2057) (v := iN zv) rfl rfl (by omega) (by omega) (by decide) (q_v) ?_
        refine wp_run (k := 3) (pc1 := 53) (l1 := [(0, .ref 55), (1, .int (iN (zp))), (2, .int (iN (zc))), (3, .int (iN ((zc) - (zD G (0) (zp))))), (4, .int (iN (zv)))]) (st1 := [.int (iN (1000000000)), .int (iN (zv))]) (kr1 := (78, 76)) (h1 := zh) (Eq.trans (b := (some (53, [(0, .ref 55), (1, .int (iN (zp))), (2, .int (iN (zc))), (3, .int (iN ((zc) - (zD G (0) (zp))))), (4, .int (iN zv))], [.int (iN (1000000000)), .int (iN zv)], (78, 76), zh) : Option am_C)) rfl (by simp only [Int32.ofInt_add, Int32.ofInt_sub, Int32.ofInt_mul, Int32.ofInt_neg])) ?_
        refine wp_lt (a := zv) (b := 1000000000) rfl (by omega) (by omega) (fun b_53 => ?_) (fun b_53 => ?_)
        · refine wp_run (k := 2) (pc1 := 64) (l1 := [(0, .ref 55), (1, .int (iN (zp))), (2, .int (iN (zc))), (3, .int (iN ((zc) - (zD G (0) (zp))))), (4, .int (iN (zv)))]) (st1 := [.int (iN ((zc) - (zD G (0) (zp)))), .int (iN (zv))]) (kr1 := (78, 76)) (h1 := zh) rfl ?_
          refine wp_le0 (a := (zc) - (zD G (0) (zp))) rfl (by omega) (fun b_64 => ?_) (fun b_64 => ?_)
          · refine wp_run (k := 3) (pc1 := 81) (l1 := [(0, .ref 55), (1, .int (iN (zp))), (2, .int (iN (zc))), (3, .int (iN ((zc) - (zD G (0) (zp))))), (4, .int (iN (zv)))]) (st1 := [.int (iN (zp)), .int (iN (4)), .ref 55, .int (iN (zv))]) (kr1 := (78, 76)) (h1 := zh) rfl ?_
            refine wp_call (md1 := am_m_Model_num) (As := [.ref 55, .int (iN (4)), .int (iN (zp))]) (rest := [.int (iN (zv))]) (kr1 := (78, 76)) rfl (jm_num _ (by omega) q_nm q_g (zw := 4) (zp := zp) (by omega) (by omega)) ?_
            rintro _ _ ⟨rfl, rfl⟩
            refine wp_run (k := 4) (pc1 := 88) (l1 := [(0, .ref 55), (1, .int (iN (zp))), (2, .int (iN (zc))), (3, .int (iN ((zc) - (zD G (0) (zp))))), (4, .int (iN (zv)))]) (st1 := [.int (iN ((zv) + ((-(G (4) (zp))) * ((zc) - (zD G (0) (zp))))))]) (kr1 := (78, 76)) (h1 := zh) (Eq.trans (b := (some (88, [(0, .ref 55), (1, .int (iN (zp))), (2, .int (iN (zc))), (3, .int (iN ((zc) - (zD G (0) (zp))))), (4, .int (iN (zv)))], [.int ((iN (zv)) + ((-(iN (G (4) (zp)))) * (iN ((zc) - (zD G (0) (zp))))))], (78, 76), zh) : Option am_C)) rfl (by simp only [Int32.ofInt_add, Int32.ofInt_sub, Int32.ofInt_mul, Int32.ofInt_neg])) ?_
            refine wp_ret (rv := some (.int (iN ((zv) + ((-(G (4) (zp))) * ((zc) - (zD G (0) (zp)))))))) rfl ?_
            exact ⟨by rw [show zBa G S T zp zc zv = (zv) + ((-(G (4) (zp))) * ((zc) - (zD G (0) (zp)))) from by unfold zBa; rw [if_pos (by omega)]; unfold zSc; rw [if_neg (by omega), Int.mul_comm, Int.neg_mul, Int.mul_neg]], rfl⟩
          · refine wp_run (k := 3) (pc1 := 70) (l1 := [(0, .ref 55), (1, .int (iN (zp))), (2, .int (iN (zc))), (3, .int (iN ((zc) - (zD G (0) (zp))))), (4, .int (iN (zv)))]) (st1 := [.int (iN (zp)), .int (iN (3)), .ref 55, .int (iN (zv))]) (kr1 := (78, 76)) (h1 := zh) rfl ?_
            refine wp_call (md1 := am_m_Model_num) (As := [.ref 55, .int (iN (3)), .int (iN (zp))]) (rest := [.int (iN (zv))]) (kr1 := (78, 76)) rfl (jm_num _ (by omega) q_nm q_g (zw := 3) (zp := zp) (by omega) (by omega)) ?_
            rintro _ _ ⟨rfl, rfl⟩
            refine wp_run (k := 4) (pc1 := 88) (l1 := [(0, .ref 55), (1, .int (iN (zp))), (2, .int (iN (zc))), (3, .int (iN ((zc) - (zD G (0) (zp))))), (4, .int (iN (zv)))]) (st1 := [.int (iN ((zv) + ((G (3) (zp)) * ((zc) - (zD G (0) (zp))))))]) (kr1 := (78, 76)) (h1 := zh) (Eq.trans (b := (some (88, [(0, .ref 55), (1, .int (iN (zp))), (2, .int (iN (zc))), (3, .int (iN ((zc) - (zD G (0) (zp))))), (4, .int (iN (zv)))], [.int ((iN (zv)) + ((iN (G (3) (zp))) * (iN ((zc) - (zD G (0) (zp))))))], (78, 76), zh) : Option am_C)) rfl (by simp only [Int32.ofInt_add, Int32.ofInt_sub, Int32.ofInt_mul, Int32.ofInt_neg])) ?_
            refine wp_ret (rv := some (.int (iN ((zv) + ((G (3) (zp)) * ((zc) - (zD G (0) (zp)))))))) rfl ?_
            exact ⟨by rw [show zBa G S T zp zc zv = (zv) + ((G (3) (zp)) * ((zc) - (zD G (0) (zp)))) from by unfold zBa; rw [if_pos (by omega)]; unfold zSc; rw [if_pos (by omega), Int.mul_comm]], rfl⟩
        · refine wp_run (k := 2) (pc1 := 88) (l1 := [(0, .ref 55), (1, .int (iN (zp))), (2, .int (iN (zc))), (3, .int (iN ((zc) - (zD G (0) (zp))))), (4, .int (iN (zv)))]) (st1 := [.int (iN (1000000000))]) (kr1 := (78, 76)) (h1 := zh) rfl ?_
          refine wp_ret (rv := some (.int (iN (1000000000)))) rfl ?_
          exact ⟨by rw [show zBa G S T zp zc zv = 1000000000 from by unfold zBa; rw [if_neg (by omega)]], rfl⟩
      · refine wp_run (k := 1) (pc1 := 33) (l1 := [(0, .ref 55), (1, .int (iN (zp))), (2, .int (iN (zc))), (3, .int (iN ((zc) - (zD G (0) (zp)))))]) (st1 := [.int (iN (1000000000))]) (kr1 := (78, 76)) (h1 := zh) rfl ?_
        refine wp_ret (rv := some (.int (iN (1000000000)))) rfl ?_
        exact ⟨by rw [show zBa G S T zp zc zv = 1000000000 from by unfold zBa; rw [if_neg (by omega)]], rfl⟩
set_option maxRecDepth 20000 in
set_option maxHeartbeats 4000000 in
theorem jl_mbounds (zd : Nat) (q_d : 3 ≤ zd) {zh : am_H} {N : Int} {G : Int → Int → Int} {S T : Int} {R zp zc : Int} {zj : Int} (q_nm : zMm (zh.1 55) (zh.1 56) N G S T) (q_g : zGk N G S T) (q_R : 0 ≤ R ∧ R ≤ 120) (q_p : 0 ≤ zp ∧ zp < N) (q_c : 0 ≤ zc ∧ zc ≤ R) (q_V : ∀ c : Int, 0 ≤ c → c ≤ R → zh.1 69 (121 * (zp + 1) + c).toNat = iN (zVb N G S T R (zp + 1) c)) {zQ : Option Value → am_H → Prop} (zk : zQ none (zH2 zh (121 * zp + zc) (zBx G zp (zAb N G S T R zp) zc zj (zBn G R zp zc)))) : ∀ (z_n : Nat) (zi : Int) (q_i : 0 ≤ zi ∧ zi ≤ min (R - zc) (G 5 zp) + 1), 122 - zi < (z_n : Int) → am_wp zd am_m_Model_bounds 20 [(0, .ref 55), (1, .int (iN (zp))), (2, .int (iN (zc))), (3, .int (iN (R))), (4, .int (iN (121 * zp + zc))), (5, .int (iN (zi)))] [] (78, 76) (zH2 zh (121 * zp + zc) (zBx G zp (zAb N G S T R zp) zc zj zi.toNat)) (78, 76) zQ := by
  obtain ⟨zd, rfl⟩ : ∃ y_e, zd = y_e + 3 := ⟨zd - 3, by omega⟩
  intro z_n
  induction z_n with
  | zero => intro zi q_i q_m; omega
  | succ z_n z_ih =>
    intro zi q_i q_m
    have q_N := q_g.1
    have y_1 := q_g.2.1 1 zp (by omega) (by omega) (by omega) (by omega)
    have y_2 := q_g.2.1 2 zp (by omega) (by omega) (by omega) (by omega)
    have y_w1 := (show vmax 1 = 999 from rfl)
    have y_w2 := (show vmax 2 = 99 from rfl)
    have y_5 := q_g.2.1 5 zp (by omega) (by omega) (by omega) (by omega)
    have y_v := (show vmax 5 = 999 from rfl)
    refine wp_run (k := 4) (pc1 := 25) (l1 := [(0, .ref 55), (1, .int (iN (zp))), (2, .int (iN (zc))), (3, .int (iN (R))), (4, .int (iN (121 * zp + zc))), (5, .int (iN (zi)))]) (st1 := [.int (iN (zp)), .int (iN (5)), .ref 55, .int (iN (zi))]) (kr1 := (78, 76)) (h1 := zH2 zh (121 * zp + zc) (zBx G zp (zAb N G S T R zp) zc zj zi.toNat)) rfl ?_
    refine wp_call (md1 := am_m_Model_num) (As := [.ref 55, .int (iN (5)), .int (iN (zp))]) (rest := [.int (iN (zi))]) (kr1 := (78, 76)) rfl (jm_num _ (by omega) (zMm_f (zH2_fr _ _ _) q_nm (by decide) (by decide)) q_g (zw := 5) (zp := zp) (by omega) (by omega)) ?_
    rintro _ _ ⟨rfl, rfl⟩
    refine wp_gt (a := zi) (b := G (5) (zp)) rfl (by omega) (by omega) (fun b_28 => ?_) (fun b_28 => ?_)
    · refine wp_ret (rv := none) rfl ?_
      rw [show zi.toNat = zBn G R zp zc from by unfold zBn; omega]
      exact zk
    · refine wp_run (k := 4) (pc1 := 36) (l1 := [(0, .ref 55), (1, .int (iN (zp))), (2, .int (iN (zc))), (3, .int (iN (R))), (4, .int (iN (121 * zp + zc))), (5, .int (iN (zi)))]) (st1 := [.int (iN (R)), .int (iN ((zc) + (zi)))]) (kr1 := (78, 76)) (h1 := zH2 zh (121 * zp + zc) (zBx G zp (zAb N G S T R zp) zc zj zi.toNat)) (Eq.trans (b := (some (36, [(0, .ref 55), (1, .int (iN (zp))), (2, .int (iN (zc))), (3, .int (iN (R))), (4, .int (iN (121 * zp + zc))), (5, .int (iN (zi)))], [.int (iN (R)), .int ((iN (zc)) + (iN (zi)))], (78, 76), zH2 zh (121 * zp + zc) (zBx G zp (zAb N G S T R zp) zc zj zi.toNat)) : Option am_C)) rfl (by simp only [Int32.ofInt_add, Int32.ofInt_sub, Int32.ofInt_mul, Int32.ofInt_neg])) ?_
      refine wp_gt (a := (zc) + (zi)) (b := R) rfl (by omega) (by omega) (fun b_36 => ?_) (fun b_36 => ?_)
      · refine wp_ret (rv := none) rfl ?_
        rw [show zi.toNat = zBn G R zp zc from by unfold zBn; omega]
        exact zk
      · have y_vb := zVb_r (S := S) (T := T) q_g q_R (p := zp + 1) (c := zc + zi) (by omega) (by omega)
        have y_A := zAb_r (S := S) (T := T) q_g q_R (p := zp) (c := zc + zi) q_p (by omega)
        have y_m := zmul_rg (x := G 2 zp) (X := 99) (y := zi) (Y := 120) (by omega) (by omega)
        have y_x := (zBx_le (G := G) (p := zp) (A := (zAb N G S T R zp)) (c := zc) (j := zj) zi.toNat).1
        have y_xr := (zBx_rg q_g (p := zp) (c := zc) (X := 5000000) (A := (zAb N G S T R zp)) q_p q_c.1 zi.toNat (by omega) (fun x y1 y2 => ⟨(zAb_r q_g q_R q_p (by omega)).1, (zAb_r q_g q_R q_p (by omega)).2.1⟩)).1
        rw [← ((zBx_le (G := G) (p := zp) (A := (zAb N G S T R zp)) (c := zc) (j := 0) zi.toNat).2.2.2 zj).1] at y_xr
        refine wp_run (k := 5) (pc1 := 45) (l1 := [(0, .ref 55), (1, .int (iN (zp))), (2, .int (iN (zc))), (3, .int (iN (R))), (4, .int (iN (121 * zp + zc))), (5, .int (iN (zi)))]) (st1 := [.int (iN ((zc) + (zi))), .int (iN (zp)), .ref 55]) (kr1 := (78, 76)) (h1 := zH2 zh (121 * zp + zc) (zBx G zp (zAb N G S T R zp) zc zj zi.toNat)) (Eq.trans (b := (some (45, [(0, .ref 55), (1, .int (iN (zp))), (2, .int (iN (zc))), (3, .int (iN (R))), (4, .int (iN (121 * zp + zc))), (5, .int (iN (zi)))], [.int ((iN (zc)) + (iN (zi))), .int (iN (zp)), .ref 55], (78, 76), zH2 zh (121 * zp + zc) (zBx G zp (zAb N G S T R zp) zc zj zi.toNat)) : Option am_C)) rfl (by simp only [Int32.ofInt_add, Int32.ofInt_sub, Int32.ofInt_mul, Int32.ofInt_neg])) ?_
        refine wp_call (md1 := am_m_Model_behindOne) (As := [.ref 55, .int (iN (zp)), .int (iN ((zc) + (zi)))]) (rest := []) (kr1 := (78, 76)) rfl (jm_behindOne _ (by omega) (zMm_f (zH2_fr _ _ _) q_nm (by decide) (by decide)) q_g (zp := zp) (zc := (zc) + (zi)) (zv := zVb N G S T R (zp + 1) (zc + zi)) (by omega) (by omega) (((zH2_o _ _ _ (by omega)).1).trans (q_V (zc + zi) (by omega) (by omega))) (by omega)) ?_
        rintro _ _ ⟨rfl, rfl⟩
        refine wp_run (k := 3) (pc1 := 54) (l1 := [(0, .ref 55), (1, .int (iN (zp))), (2, .int (iN (zc))), (3, .int (iN (R))), (4, .int (iN (121 * zp + zc))), (5, .int (iN (zi))), (6, .int (iN (zAb N G S T R zp (zc + zi))))]) (st1 := [.int (iN (1000000000)), .int (iN (zAb N G S T R zp (zc + zi)))]) (kr1 := (78, 76)) (h1 := zH2 zh (121 * zp + zc) (zBx G zp (zAb N G S T R zp) zc zj zi.toNat)) rfl ?_
        refine wp_lt (a := zAb N G S T R zp (zc + zi)) (b := 1000000000) rfl (by omega) (by omega) (fun b_54 => ?_) (fun b_54 => ?_)
        · refine wp_run (k := 2) (pc1 := 64) (l1 := [(0, .ref 55), (1, .int (iN (zp))), (2, .int (iN (zc))), (3, .int (iN (R))), (4, .int (iN (121 * zp + zc))), (5, .int (iN (zi))), (6, .int (iN (zAb N G S T R zp (zc + zi))))]) (st1 := [.int (iN (zi)), .int (iN (zAb N G S T R zp (zc + zi)))]) (kr1 := (78, 76)) (h1 := zH2 zh (121 * zp + zc) (zBx G zp (zAb N G S T R zp) zc zj zi.toNat)) rfl ?_
          refine wp_le0 (a := zi) rfl (by omega) (fun b_64 => ?_) (fun b_64 => ?_)
          · refine wp_run (k := 7) (pc1 := 98) (l1 := [(0, .ref 55), (1, .int (iN (zp))), (2, .int (iN (zc))), (3, .int (iN (R))), (4, .int (iN (121 * zp + zc))), (5, .int (iN (zi))), (6, .int (iN (zAb N G S T R zp (zc + zi)))), (7, .int (iN ((zAb N G S T R zp (zc + zi)) + (0))))]) (st1 := [.int (iN (121 * zp + zc)), .ref 69, .int (iN ((zAb N G S T R zp (zc + zi)) + (0)))]) (kr1 := (78, 76)) (h1 := zH2 zh (121 * zp + zc) (zBx G zp (zAb N G S T R zp) zc zj zi.toNat)) (Eq.trans (b := (some (98, [(0, .ref 55), (1, .int (iN (zp))), (2, .int (iN (zc))), (3, .int (iN (R))), (4, .int (iN (121 * zp + zc))), (5, .int (iN (zi))), (6, .int (iN (zAb N G S T R zp (zc + zi)))), (7, .int ((iN (zAb N G S T R zp (zc + zi))) + (iN (0))))], [.int (iN (121 * zp + zc)), .ref 69, .int ((iN (zAb N G S T R zp (zc + zi))) + (iN (0)))], (78, 76), zH2 zh (121 * zp + zc) (zBx G zp (zAb N G S T R zp) zc zj zi.toNat)) : Option am_C)) rfl (by simp only [Int32.ofInt_add, Int32.ofInt_sub, Int32.ofInt_mul, Int32.ofInt_neg])) ?_
            refine wp_iald (f := (zH2 zh (121 * zp + zc) (zBx G zp (zAb N G S T R zp) zc zj zi.toNat)).1 69) (z := 121 * zp + zc) (j := (121 * zp + zc).toNat) (n := 2057) (v := iN ((zBx G zp (zAb N G S T R zp) zc zj zi.toNat).1)) rfl rfl (by omega) (by omega) (by decide) (zH2_1 _ _ _) ?_
            refine wp_ge (a := (zAb N G S T R zp (zc + zi)) + (0)) (b := (zBx G zp (zAb N G S T R zp) zc zj zi.toNat).1) rfl (by omega) (by omega) (fun b_99 => ?_) (fun b_99 => ?_)
            · refine wp_run (k := 2) (pc1 := 20) (l1 := [(0, .ref 55), (1, .int (iN (zp))), (2, .int (iN (zc))), (3, .int (iN (R))), (4, .int (iN (121 * zp + zc))), (5, .int (iN ((zi) + 1))), (6, .int (iN (zAb N G S T R zp (zc + zi)))), (7, .int (iN ((zAb N G S T R zp (zc + zi)) + (0))))]) (st1 := []) (kr1 := (78, 76)) (h1 := zH2 zh (121 * zp + zc) (zBx G zp (zAb N G S T R zp) zc zj zi.toNat)) (Eq.trans (b := (some (20, [(0, .ref 55), (1, .int (iN (zp))), (2, .int (iN (zc))), (3, .int (iN (R))), (4, .int (iN (121 * zp + zc))), (5, .int ((iN (zi)) + iN (1))), (6, .int (iN (zAb N G S T R zp (zc + zi)))), (7, .int (iN ((zAb N G S T R zp (zc + zi)) + (0))))], [], (78, 76), zH2 zh (121 * zp + zc) (zBx G zp (zAb N G S T R zp) zc zj zi.toNat)) : Option am_C)) rfl (by simp only [Int32.ofInt_add, Int32.ofInt_sub, Int32.ofInt_mul, Int32.ofInt_neg])) ?_
              refine wp_drop [6, 7] (l := [(0, .ref 55), (1, .int (iN (zp))), (2, .int (iN (zc))), (3, .int (iN (R))), (4, .int (iN (121 * zp + zc))), (5, .int (iN ((zi) + 1)))]) rfl rfl ?_
              have y_y : zBy G zp (zAb N G S T R zp) zc zi = (zAb N G S T R zp (zc + zi)) + (0) := by unfold zBy; rw [if_neg (by omega)]
              rw [show zBx G zp (zAb N G S T R zp) zc zj zi.toNat = zBx G zp (zAb N G S T R zp) zc zj (zi + 1).toNat from by rw [zBx_s G zp _ zc zj zi (by omega), if_neg (fun y => by have y1 := y.1; have y2 := y.2; omega)]]
              exact z_ih (zi + 1) (by omega) (by omega)
            · refine wp_run (k := 4) (pc1 := 110) (l1 := [(0, .ref 55), (1, .int (iN (zp))), (2, .int (iN (zc))), (3, .int (iN (R))), (4, .int (iN (121 * zp + zc))), (5, .int (iN (zi))), (6, .int (iN (zAb N G S T R zp (zc + zi)))), (7, .int (iN ((zAb N G S T R zp (zc + zi)) + (0))))]) (st1 := [.int (iN ((zAb N G S T R zp (zc + zi)) + (0))), .int (iN (121 * zp + zc)), .ref 69]) (kr1 := (78, 76)) (h1 := zH2 zh (121 * zp + zc) (zBx G zp (zAb N G S T R zp) zc zj zi.toNat)) rfl ?_
              refine wp_iast (z := 121 * zp + zc) (j := (121 * zp + zc).toNat) (n := 2057) rfl (by decide) (by decide) rfl rfl (by omega) (by omega) (by decide) ?_
              refine wp_run (k := 4) (pc1 := 119) (l1 := [(0, .ref 55), (1, .int (iN (zp))), (2, .int (iN (zc))), (3, .int (iN (R))), (4, .int (iN (121 * zp + zc))), (5, .int (iN (zi))), (6, .int (iN (zAb N G S T R zp (zc + zi)))), (7, .int (iN ((zAb N G S T R zp (zc + zi)) + (0))))]) (st1 := [.int (iN (zi)), .int (iN (121 * zp + zc)), .ref 70]) (kr1 := (78, 76)) (h1 := am_wr (zH2 zh (121 * zp + zc) (zBx G zp (zAb N G S T R zp) zc zj zi.toNat)) 69 ((121 * zp + zc).toNat) (iN ((zAb N G S T R zp (zc + zi)) + (0)))) rfl ?_
              refine wp_iast (z := 121 * zp + zc) (j := (121 * zp + zc).toNat) (n := 2057) rfl (by decide) (by decide) rfl rfl (by omega) (by omega) (by decide) ?_
              refine wp_run (k := 2) (pc1 := 20) (l1 := [(0, .ref 55), (1, .int (iN (zp))), (2, .int (iN (zc))), (3, .int (iN (R))), (4, .int (iN (121 * zp + zc))), (5, .int (iN ((zi) + 1))), (6, .int (iN (zAb N G S T R zp (zc + zi)))), (7, .int (iN ((zAb N G S T R zp (zc + zi)) + (0))))]) (st1 := []) (kr1 := (78, 76)) (h1 := am_wr (am_wr (zH2 zh (121 * zp + zc) (zBx G zp (zAb N G S T R zp) zc zj zi.toNat)) 69 ((121 * zp + zc).toNat) (iN ((zAb N G S T R zp (zc + zi)) + (0)))) 70 ((121 * zp + zc).toNat) (iN (zi))) (Eq.trans (b := (some (20, [(0, .ref 55), (1, .int (iN (zp))), (2, .int (iN (zc))), (3, .int (iN (R))), (4, .int (iN (121 * zp + zc))), (5, .int ((iN (zi)) + iN (1))), (6, .int (iN (zAb N G S T R zp (zc + zi)))), (7, .int (iN ((zAb N G S T R zp (zc + zi)) + (0))))], [], (78, 76), am_wr (am_wr (zH2 zh (121 * zp + zc) (zBx G zp (zAb N G S T R zp) zc zj zi.toNat)) 69 ((121 * zp + zc).toNat) (iN ((zAb N G S T R zp (zc + zi)) + (0)))) 70 ((121 * zp + zc).toNat) (iN (zi))) : Option am_C)) rfl (by simp only [Int32.ofInt_add, Int32.ofInt_sub, Int32.ofInt_mul, Int32.ofInt_neg])) ?_
              refine wp_drop [6, 7] (l := [(0, .ref 55), (1, .int (iN (zp))), (2, .int (iN (zc))), (3, .int (iN (R))), (4, .int (iN (121 * zp + zc))), (5, .int (iN ((zi) + 1)))]) rfl rfl ?_
              have y_y : zBy G zp (zAb N G S T R zp) zc zi = (zAb N G S T R zp (zc + zi)) + (0) := by unfold zBy; rw [if_neg (by omega)]
              rw [zH2_w, show ((zAb N G S T R zp (zc + zi)) + (0), zi) = zBx G zp (zAb N G S T R zp) zc zj (zi + 1).toNat from by rw [zBx_s G zp _ zc zj zi (by omega), if_pos ⟨by omega, by omega⟩, y_y]]
              exact z_ih (zi + 1) (by omega) (by omega)
          · refine wp_run (k := 3) (pc1 := 70) (l1 := [(0, .ref 55), (1, .int (iN (zp))), (2, .int (iN (zc))), (3, .int (iN (R))), (4, .int (iN (121 * zp + zc))), (5, .int (iN (zi))), (6, .int (iN (zAb N G S T R zp (zc + zi))))]) (st1 := [.int (iN (zp)), .int (iN (1)), .ref 55, .int (iN (zAb N G S T R zp (zc + zi)))]) (kr1 := (78, 76)) (h1 := zH2 zh (121 * zp + zc) (zBx G zp (zAb N G S T R zp) zc zj zi.toNat)) rfl ?_
            refine wp_call (md1 := am_m_Model_num) (As := [.ref 55, .int (iN (1)), .int (iN (zp))]) (rest := [.int (iN (zAb N G S T R zp (zc + zi)))]) (kr1 := (78, 76)) rfl (jm_num _ (by omega) (zMm_f (zH2_fr _ _ _) q_nm (by decide) (by decide)) q_g (zw := 1) (zp := zp) (by omega) (by omega)) ?_
            rintro _ _ ⟨rfl, rfl⟩
            refine wp_run (k := 3) (pc1 := 76) (l1 := [(0, .ref 55), (1, .int (iN (zp))), (2, .int (iN (zc))), (3, .int (iN (R))), (4, .int (iN (121 * zp + zc))), (5, .int (iN (zi))), (6, .int (iN (zAb N G S T R zp (zc + zi))))]) (st1 := [.int (iN (zp)), .int (iN (2)), .ref 55, .int (iN (G (1) (zp))), .int (iN (zAb N G S T R zp (zc + zi)))]) (kr1 := (78, 76)) (h1 := zH2 zh (121 * zp + zc) (zBx G zp (zAb N G S T R zp) zc zj zi.toNat)) rfl ?_
            refine wp_call (md1 := am_m_Model_num) (As := [.ref 55, .int (iN (2)), .int (iN (zp))]) (rest := [.int (iN (G (1) (zp))), .int (iN (zAb N G S T R zp (zc + zi)))]) (kr1 := (78, 76)) rfl (jm_num _ (by omega) (zMm_f (zH2_fr _ _ _) q_nm (by decide) (by decide)) q_g (zw := 2) (zp := zp) (by omega) (by omega)) ?_
            rintro _ _ ⟨rfl, rfl⟩
            refine wp_run (k := 10) (pc1 := 98) (l1 := [(0, .ref 55), (1, .int (iN (zp))), (2, .int (iN (zc))), (3, .int (iN (R))), (4, .int (iN (121 * zp + zc))), (5, .int (iN (zi))), (6, .int (iN (zAb N G S T R zp (zc + zi)))), (7, .int (iN ((zAb N G S T R zp (zc + zi)) + ((G (1) (zp)) + ((G (2) (zp)) * (zi))))))]) (st1 := [.int (iN (121 * zp + zc)), .ref 69, .int (iN ((zAb N G S T R zp (zc + zi)) + ((G (1) (zp)) + ((G (2) (zp)) * (zi)))))]) (kr1 := (78, 76)) (h1 := zH2 zh (121 * zp + zc) (zBx G zp (zAb N G S T R zp) zc zj zi.toNat)) (Eq.trans (b := (some (98, [(0, .ref 55), (1, .int (iN (zp))), (2, .int (iN (zc))), (3, .int (iN (R))), (4, .int (iN (121 * zp + zc))), (5, .int (iN (zi))), (6, .int (iN (zAb N G S T R zp (zc + zi)))), (7, .int ((iN (zAb N G S T R zp (zc + zi))) + ((iN (G (1) (zp))) + ((iN (G (2) (zp))) * (iN (zi))))))], [.int (iN (121 * zp + zc)), .ref 69, .int ((iN (zAb N G S T R zp (zc + zi))) + ((iN (G (1) (zp))) + ((iN (G (2) (zp))) * (iN (zi)))))], (78, 76), zH2 zh (121 * zp + zc) (zBx G zp (zAb N G S T R zp) zc zj zi.toNat)) : Option am_C)) rfl (by simp only [Int32.ofInt_add, Int32.ofInt_sub, Int32.ofInt_mul, Int32.ofInt_neg])) ?_
            refine wp_iald (f := (zH2 zh (121 * zp + zc) (zBx G zp (zAb N G S T R zp) zc zj zi.toNat)).1 69) (z := 121 * zp + zc) (j := (121 * zp + zc).toNat) (n := 2057) (v := iN ((zBx G zp (zAb N G S T R zp) zc zj zi.toNat).1)) rfl rfl (by omega) (by omega) (by decide) (zH2_1 _ _ _) ?_
            refine wp_ge (a := (zAb N G S T R zp (zc + zi)) + ((G (1) (zp)) + ((G (2) (zp)) * (zi)))) (b := (zBx G zp (zAb N G S T R zp) zc zj zi.toNat).1) rfl (by omega) (by omega) (fun b_99 => ?_) (fun b_99 => ?_)
            · refine wp_run (k := 2) (pc1 := 20) (l1 := [(0, .ref 55), (1, .int (iN (zp))), (2, .int (iN (zc))), (3, .int (iN (R))), (4, .int (iN (121 * zp + zc))), (5, .int (iN ((zi) + 1))), (6, .int (iN (zAb N G S T R zp (zc + zi)))), (7, .int (iN ((zAb N G S T R zp (zc + zi)) + ((G (1) (zp)) + ((G (2) (zp)) * (zi))))))]) (st1 := []) (kr1 := (78, 76)) (h1 := zH2 zh (121 * zp + zc) (zBx G zp (zAb N G S T R zp) zc zj zi.toNat)) (Eq.trans (b := (some (20, [(0, .ref 55), (1, .int (iN (zp))), (2, .int (iN (zc))), (3, .int (iN (R))), (4, .int (iN (121 * zp + zc))), (5, .int ((iN (zi)) + iN (1))), (6, .int (iN (zAb N G S T R zp (zc + zi)))), (7, .int (iN ((zAb N G S T R zp (zc + zi)) + ((G (1) (zp)) + ((G (2) (zp)) * (zi))))))], [], (78, 76), zH2 zh (121 * zp + zc) (zBx G zp (zAb N G S T R zp) zc zj zi.toNat)) : Option am_C)) rfl (by simp only [Int32.ofInt_add, Int32.ofInt_sub, Int32.ofInt_mul, Int32.ofInt_neg])) ?_
              refine wp_drop [6, 7] (l := [(0, .ref 55), (1, .int (iN (zp))), (2, .int (iN (zc))), (3, .int (iN (R))), (4, .int (iN (121 * zp + zc))), (5, .int (iN ((zi) + 1)))]) rfl rfl ?_
              have y_y : zBy G zp (zAb N G S T R zp) zc zi = (zAb N G S T R zp (zc + zi)) + ((G (1) (zp)) + ((G (2) (zp)) * (zi))) := by unfold zBy; rw [if_pos (by omega)]
              rw [show zBx G zp (zAb N G S T R zp) zc zj zi.toNat = zBx G zp (zAb N G S T R zp) zc zj (zi + 1).toNat from by rw [zBx_s G zp _ zc zj zi (by omega), if_neg (fun y => by have y1 := y.1; have y2 := y.2; omega)]]
              exact z_ih (zi + 1) (by omega) (by omega)
            · refine wp_run (k := 4) (pc1 := 110) (l1 := [(0, .ref 55), (1, .int (iN (zp))), (2, .int (iN (zc))), (3, .int (iN (R))), (4, .int (iN (121 * zp + zc))), (5, .int (iN (zi))), (6, .int (iN (zAb N G S T R zp (zc + zi)))), (7, .int (iN ((zAb N G S T R zp (zc + zi)) + ((G (1) (zp)) + ((G (2) (zp)) * (zi))))))]) (st1 := [.int (iN ((zAb N G S T R zp (zc + zi)) + ((G (1) (zp)) + ((G (2) (zp)) * (zi))))), .int (iN (121 * zp + zc)), .ref 69]) (kr1 := (78, 76)) (h1 := zH2 zh (121 * zp + zc) (zBx G zp (zAb N G S T R zp) zc zj zi.toNat)) rfl ?_
              refine wp_iast (z := 121 * zp + zc) (j := (121 * zp + zc).toNat) (n := 2057) rfl (by decide) (by decide) rfl rfl (by omega) (by omega) (by decide) ?_
              refine wp_run (k := 4) (pc1 := 119) (l1 := [(0, .ref 55), (1, .int (iN (zp))), (2, .int (iN (zc))), (3, .int (iN (R))), (4, .int (iN (121 * zp + zc))), (5, .int (iN (zi))), (6, .int (iN (zAb N G S T R zp (zc + zi)))), (7, .int (iN ((zAb N G S T R zp (zc + zi)) + ((G (1) (zp)) + ((G (2) (zp)) * (zi))))))]) (st1 := [.int (iN (zi)), .int (iN (121 * zp + zc)), .ref 70]) (kr1 := (78, 76)) (h1 := am_wr (zH2 zh (121 * zp + zc) (zBx G zp (zAb N G S T R zp) zc zj zi.toNat)) 69 ((121 * zp + zc).toNat) (iN ((zAb N G S T R zp (zc + zi)) + ((G (1) (zp)) + ((G (2) (zp)) * (zi)))))) rfl ?_
              refine wp_iast (z := 121 * zp + zc) (j := (121 * zp + zc).toNat) (n := 2057) rfl (by decide) (by decide) rfl rfl (by omega) (by omega) (by decide) ?_
              refine wp_run (k := 2) (pc1 := 20) (l1 := [(0, .ref 55), (1, .int (iN (zp))), (2, .int (iN (zc))), (3, .int (iN (R))), (4, .int (iN (121 * zp + zc))), (5, .int (iN ((zi) + 1))), (6, .int (iN (zAb N G S T R zp (zc + zi)))), (7, .int (iN ((zAb N G S T R zp (zc + zi)) + ((G (1) (zp)) + ((G (2) (zp)) * (zi))))))]) (st1 := []) (kr1 := (78, 76)) (h1 := am_wr (am_wr (zH2 zh (121 * zp + zc) (zBx G zp (zAb N G S T R zp) zc zj zi.toNat)) 69 ((121 * zp + zc).toNat) (iN ((zAb N G S T R zp (zc + zi)) + ((G (1) (zp)) + ((G (2) (zp)) * (zi)))))) 70 ((121 * zp + zc).toNat) (iN (zi))) (Eq.trans (b := (some (20, [(0, .ref 55), (1, .int (iN (zp))), (2, .int (iN (zc))), (3, .int (iN (R))), (4, .int (iN (121 * zp + zc))), (5, .int ((iN (zi)) + iN (1))), (6, .int (iN (zAb N G S T R zp (zc + zi)))), (7, .int (iN ((zAb N G S T R zp (zc + zi)) + ((G (1) (zp)) + ((G (2) (zp)) * (zi))))))], [], (78, 76), am_wr (am_wr (zH2 zh (121 * zp + zc) (zBx G zp (zAb N G S T R zp) zc zj zi.toNat)) 69 ((121 * zp + zc).toNat) (iN ((zAb N G S T R zp (zc + zi)) + ((G (1) (zp)) + ((G (2) (zp)) * (zi)))))) 70 ((121 * zp + zc).toNat) (iN (zi))) : Option am_C)) rfl (by simp only [Int32.ofInt_add, Int32.ofInt_sub, Int32.ofInt_mul, Int32.ofInt_neg])) ?_
              refine wp_drop [6, 7] (l := [(0, .ref 55), (1, .int (iN (zp))), (2, .int (iN (zc))), (3, .int (iN (R))), (4, .int (iN (121 * zp + zc))), (5, .int (iN ((zi) + 1)))]) rfl rfl ?_
              have y_y : zBy G zp (zAb N G S T R zp) zc zi = (zAb N G S T R zp (zc + zi)) + ((G (1) (zp)) + ((G (2) (zp)) * (zi))) := by unfold zBy; rw [if_pos (by omega)]
              rw [zH2_w, show ((zAb N G S T R zp (zc + zi)) + ((G (1) (zp)) + ((G (2) (zp)) * (zi))), zi) = zBx G zp (zAb N G S T R zp) zc zj (zi + 1).toNat from by rw [zBx_s G zp _ zc zj zi (by omega), if_pos ⟨by omega, by omega⟩, y_y]]
              exact z_ih (zi + 1) (by omega) (by omega)
        · refine wp_run (k := 3) (pc1 := 20) (l1 := [(0, .ref 55), (1, .int (iN (zp))), (2, .int (iN (zc))), (3, .int (iN (R))), (4, .int (iN (121 * zp + zc))), (5, .int (iN ((zi) + 1))), (6, .int (iN (zAb N G S T R zp (zc + zi))))]) (st1 := []) (kr1 := (78, 76)) (h1 := zH2 zh (121 * zp + zc) (zBx G zp (zAb N G S T R zp) zc zj zi.toNat)) (Eq.trans (b := (some (20, [(0, .ref 55), (1, .int (iN (zp))), (2, .int (iN (zc))), (3, .int (iN (R))), (4, .int (iN (121 * zp + zc))), (5, .int ((iN (zi)) + iN (1))), (6, .int (iN (zAb N G S T R zp (zc + zi))))], [], (78, 76), zH2 zh (121 * zp + zc) (zBx G zp (zAb N G S T R zp) zc zj zi.toNat)) : Option am_C)) rfl (by simp only [Int32.ofInt_add, Int32.ofInt_sub, Int32.ofInt_mul, Int32.ofInt_neg])) ?_
          refine wp_drop [6] (l := [(0, .ref 55), (1, .int (iN (zp))), (2, .int (iN (zc))), (3, .int (iN (R))), (4, .int (iN (121 * zp + zc))), (5, .int (iN ((zi) + 1)))]) rfl rfl ?_
          rw [show zBx G zp (zAb N G S T R zp) zc zj zi.toNat = zBx G zp (zAb N G S T R zp) zc zj (zi + 1).toNat from by rw [zBx_s G zp _ zc zj zi (by omega), if_neg (fun y => by have y1 := y.1; have y2 := y.2; omega)]]
          exact z_ih (zi + 1) (by omega) (by omega)
set_option maxRecDepth 20000 in
set_option maxHeartbeats 4000000 in
theorem jm_bounds (zd : Nat) (q_d : 3 ≤ zd) {zh : am_H} {N : Int} {G : Int → Int → Int} {S T : Int} {R zp zc : Int} (q_nm : zMm (zh.1 55) (zh.1 56) N G S T) (q_g : zGk N G S T) (q_R : 0 ≤ R ∧ R ≤ 120) (q_p : 0 ≤ zp ∧ zp < N) (q_c : 0 ≤ zc ∧ zc ≤ R) (q_V : ∀ c : Int, 0 ≤ c → c ≤ R → zh.1 69 (121 * (zp + 1) + c).toNat = iN (zVb N G S T R (zp + 1) c)) : am_wp zd am_m_Model_bounds 0 [(0, .ref 55), (1, .int (iN (zp))), (2, .int (iN (zc))), (3, .int (iN (R)))] [] (78, 76) zh (78, 76) (fun rv h' => rv = none ∧ zH2 zh (121 * zp + zc) (zBx G zp (zAb N G S T R zp) zc (zh.1 70 (121 * zp + zc).toNat).toInt (zBn G R zp zc)) = h') := by
  obtain ⟨zd, rfl⟩ : ∃ y_e, zd = y_e + 3 := ⟨zd - 3, by omega⟩
  have q_N := q_g.1
  have y_1 := q_g.2.1 1 zp (by omega) (by omega) (by omega) (by omega)
  have y_2 := q_g.2.1 2 zp (by omega) (by omega) (by omega) (by omega)
  have y_w1 := (show vmax 1 = 999 from rfl)
  have y_w2 := (show vmax 2 = 99 from rfl)
  have y_5 := q_g.2.1 5 zp (by omega) (by omega) (by omega) (by omega)
  have y_v := (show vmax 5 = 999 from rfl)
  refine wp_run (k := 10) (pc1 := 16) (l1 := [(0, .ref 55), (1, .int (iN (zp))), (2, .int (iN (zc))), (3, .int (iN (R))), (4, .int (iN (((121) * (zp)) + (zc))))]) (st1 := [.int (iN (1000000000)), .int (iN (((121) * (zp)) + (zc))), .ref 69]) (kr1 := (78, 76)) (h1 := zh) (Eq.trans (b := (some (16, [(0, .ref 55), (1, .int (iN (zp))), (2, .int (iN (zc))), (3, .int (iN (R))), (4, .int (((iN (121)) * (iN (zp))) + (iN (zc))))], [.int (iN (1000000000)), .int (((iN (121)) * (iN (zp))) + (iN (zc))), .ref 69], (78, 76), zh) : Option am_C)) rfl (by simp only [Int32.ofInt_add, Int32.ofInt_sub, Int32.ofInt_mul, Int32.ofInt_neg])) ?_
  refine wp_iast (z := ((121) * (zp)) + (zc)) (j := (121 * zp + zc).toNat) (n := 2057) rfl (by decide) (by decide) rfl rfl (by omega) (by omega) (by decide) ?_
  refine wp_run (k := 2) (pc1 := 20) (l1 := [(0, .ref 55), (1, .int (iN (zp))), (2, .int (iN (zc))), (3, .int (iN (R))), (4, .int (iN (((121) * (zp)) + (zc)))), (5, .int (iN (0)))]) (st1 := []) (kr1 := (78, 76)) (h1 := am_wr zh 69 ((121 * zp + zc).toNat) (iN (1000000000))) rfl ?_
  have y_i : ((121) * (zp)) + (zc) = 121 * zp + zc := by omega
  have y_e : am_wr zh 69 ((121 * zp + zc).toNat) (iN (1000000000)) = zH2 zh (121 * zp + zc) (zBx G zp (zAb N G S T R zp) zc (zh.1 70 (121 * zp + zc).toNat).toInt (0 : Int).toNat) := by rw [zH2_0]; rfl
  rw [y_i, y_e]
  exact jl_mbounds _ (by omega) q_nm q_g q_R q_p q_c q_V ⟨rfl, rfl⟩ 130 0 (by omega) (by omega)
set_option maxRecDepth 20000 in
set_option maxHeartbeats 4000000 in
theorem jl_mbrow (zd : Nat) (q_d : 4 ≤ zd) {zh : am_H} {N : Int} {G : Int → Int → Int} {S T : Int} {R : Int} (q_nm : zMm (zh.1 55) (zh.1 56) N G S T) (q_g : zGk N G S T) (q_R : 0 ≤ R ∧ R ≤ 120) {zQ : Option Value → am_H → Prop} (zk : ∀ zg : am_H, am_fr [69] zh zg → (∀ c : Int, 0 ≤ c → c ≤ R → zg.1 69 (121 * N + c).toNat = iN (zVb N G S T R N c)) → am_wp zd am_m_Model_boundedNow 59 [(0, .ref 55), (1, .int (iN (R))), (2, .int (iN (R + 1)))] [] (78, 76) zg (78, 76) zQ) : ∀ (z_n : Nat) (zg : am_H) (zi : Int) (q_f : am_fr [69] zh zg) (q_i : 0 ≤ zi ∧ zi ≤ R + 1) (q_w : ∀ c : Int, 0 ≤ c → c < zi → zg.1 69 (121 * N + c).toNat = iN (zVb N G S T R N c)), R + 1 - zi < (z_n : Int) → am_wp zd am_m_Model_boundedNow 23 [(0, .ref 55), (1, .int (iN (R))), (2, .int (iN (zi)))] [] (78, 76) zg (78, 76) zQ := by
  obtain ⟨zd, rfl⟩ : ∃ y_e, zd = y_e + 4 := ⟨zd - 4, by omega⟩
  intro z_n
  induction z_n with
  | zero => intro zg zi q_f q_i q_w q_m; omega
  | succ z_n z_ih =>
    intro zg zi q_f q_i q_w q_m
    have q_N := q_g.1
    refine wp_run (k := 2) (pc1 := 25) (l1 := [(0, .ref 55), (1, .int (iN (R))), (2, .int (iN (zi)))]) (st1 := [.int (iN (R)), .int (iN (zi))]) (kr1 := (78, 76)) (h1 := zg) rfl ?_
    refine wp_gt (a := zi) (b := R) rfl (by omega) (by omega) (fun b_25 => ?_) (fun b_25 => ?_)
    · have y_9 : zi = R + 1 := by omega
      rw [y_9]
      exact zk zg q_f (fun c y1 y2 => q_w c y1 (by omega))
    · refine wp_run (k := 10) (pc1 := 43) (l1 := [(0, .ref 55), (1, .int (iN (R))), (2, .int (iN (zi)))]) (st1 := [.int (iN (R)), .int (iN (zi)), .int (iN (((121) * (N)) + (zi))), .ref 69]) (kr1 := (78, 76)) (h1 := zg) (Eq.trans (b := (some (43, [(0, .ref 55), (1, .int (iN (R))), (2, .int (iN (zi)))], [.int (iN (R)), .int (iN (zi)), .int (((iN (121)) * (zg.1 55 0)) + (iN (zi))), .ref 69], (78, 76), zg) : Option am_C)) rfl (by simp only [(show (zg).1 55 0 = iN N from (congrFun ((q_f).2 55 (by decide)) 0).trans q_nm.1), Int32.ofInt_add, Int32.ofInt_sub, Int32.ofInt_mul, Int32.ofInt_neg])) ?_
      refine wp_ne (a := zi) (b := R) rfl (by omega) (by omega) (fun b_43 => ?_) (fun b_43 => ?_)
      · refine wp_run (k := 1) (pc1 := 52) (l1 := [(0, .ref 55), (1, .int (iN (R))), (2, .int (iN (zi)))]) (st1 := [.int (iN (1000000000)), .int (iN (((121) * (N)) + (zi))), .ref 69]) (kr1 := (78, 76)) (h1 := zg) rfl ?_
        refine wp_iast (z := ((121) * (N)) + (zi)) (j := (121 * N + zi).toNat) (n := 2057) rfl (by decide) (by decide) rfl rfl (by omega) (by omega) (by decide) ?_
        refine wp_run (k := 2) (pc1 := 23) (l1 := [(0, .ref 55), (1, .int (iN (R))), (2, .int (iN ((zi) + 1)))]) (st1 := []) (kr1 := (78, 76)) (h1 := am_wr zg 69 ((121 * N + zi).toNat) (iN (1000000000))) (Eq.trans (b := (some (23, [(0, .ref 55), (1, .int (iN (R))), (2, .int ((iN (zi)) + iN (1)))], [], (78, 76), am_wr zg 69 ((121 * N + zi).toNat) (iN (1000000000))) : Option am_C)) rfl (by simp only [Int32.ofInt_add, Int32.ofInt_sub, Int32.ofInt_mul, Int32.ofInt_neg])) ?_
        refine z_ih (am_wr zg 69 ((121 * N + zi).toNat) (iN (1000000000))) (zi + 1) (am_fr_w q_f (by decide) _ _) (by omega) (fun c y1 y2 => ?_) (by omega)
        by_cases y3 : c = zi
        · rw [y3, am_wr_at, zVb_n]; first | rw [if_pos (by omega)] | rw [if_neg (by omega)]
        · rw [am_wr_no (by omega)]; exact q_w c y1 (by omega)
      · refine wp_run (k := 2) (pc1 := 52) (l1 := [(0, .ref 55), (1, .int (iN (R))), (2, .int (iN (zi)))]) (st1 := [.int (iN (0)), .int (iN (((121) * (N)) + (zi))), .ref 69]) (kr1 := (78, 76)) (h1 := zg) rfl ?_
        refine wp_iast (z := ((121) * (N)) + (zi)) (j := (121 * N + zi).toNat) (n := 2057) rfl (by decide) (by decide) rfl rfl (by omega) (by omega) (by decide) ?_
        refine wp_run (k := 2) (pc1 := 23) (l1 := [(0, .ref 55), (1, .int (iN (R))), (2, .int (iN ((zi) + 1)))]) (st1 := []) (kr1 := (78, 76)) (h1 := am_wr zg 69 ((121 * N + zi).toNat) (iN (0))) (Eq.trans (b := (some (23, [(0, .ref 55), (1, .int (iN (R))), (2, .int ((iN (zi)) + iN (1)))], [], (78, 76), am_wr zg 69 ((121 * N + zi).toNat) (iN (0))) : Option am_C)) rfl (by simp only [Int32.ofInt_add, Int32.ofInt_sub, Int32.ofInt_mul, Int32.ofInt_neg])) ?_
        refine z_ih (am_wr zg 69 ((121 * N + zi).toNat) (iN (0))) (zi + 1) (am_fr_w q_f (by decide) _ _) (by omega) (fun c y1 y2 => ?_) (by omega)
        by_cases y3 : c = zi
        · rw [y3, am_wr_at, zVb_n]; first | rw [if_pos (by omega)] | rw [if_neg (by omega)]
        · rw [am_wr_no (by omega)]; exact q_w c y1 (by omega)
set_option maxRecDepth 20000 in
set_option maxHeartbeats 4000000 in
theorem jl_mbone (zd : Nat) (q_d : 4 ≤ zd) {zh : am_H} {N : Int} {G : Int → Int → Int} {S T : Int} {R : Int} {zp : Int} (q_nm : zMm (zh.1 55) (zh.1 56) N G S T) (q_g : zGk N G S T) (q_R : 0 ≤ R ∧ R ≤ 120) (q_p : 0 ≤ zp ∧ zp < N) {zQ : Option Value → am_H → Prop} (zk : ∀ zg : am_H, am_fr [69, 70] zh zg → (∀ p c : Int, zp < p → p ≤ N → 0 ≤ c → c ≤ R → zg.1 69 (121 * p + c).toNat = iN (zVb N G S T R p c) ∧ (p < N → zVb N G S T R p c < 1000000000 → zg.1 70 (121 * p + c).toNat = iN (zPk N G S T R p c))) → (∀ c : Int, 0 ≤ c → c ≤ R → zg.1 69 (121 * zp + c).toNat = iN (zVb N G S T R zp c) ∧ (zp < N → zVb N G S T R zp c < 1000000000 → zg.1 70 (121 * zp + c).toNat = iN (zPk N G S T R zp c))) → am_wp zd am_m_Model_boundedNow 90 [(0, .ref 55), (1, .int (iN (R))), (2, .int (iN (zp))), (3, .int (iN (R + 1)))] [] (78, 76) zg (78, 76) zQ) : ∀ (z_n : Nat) (zg : am_H) (zi : Int) (q_f : am_fr [69, 70] zh zg) (q_i : 0 ≤ zi ∧ zi ≤ R + 1) (q_o : ∀ p c : Int, zp < p → p ≤ N → 0 ≤ c → c ≤ R → zg.1 69 (121 * p + c).toNat = iN (zVb N G S T R p c) ∧ (p < N → zVb N G S T R p c < 1000000000 → zg.1 70 (121 * p + c).toNat = iN (zPk N G S T R p c))) (q_w : ∀ c : Int, 0 ≤ c → c < zi → zg.1 69 (121 * zp + c).toNat = iN (zVb N G S T R zp c) ∧ (zp < N → zVb N G S T R zp c < 1000000000 → zg.1 70 (121 * zp + c).toNat = iN (zPk N G S T R zp c))), R + 1 - zi < (z_n : Int) → am_wp zd am_m_Model_boundedNow 72 [(0, .ref 55), (1, .int (iN (R))), (2, .int (iN (zp))), (3, .int (iN (zi)))] [] (78, 76) zg (78, 76) zQ := by
  obtain ⟨zd, rfl⟩ : ∃ y_e, zd = y_e + 4 := ⟨zd - 4, by omega⟩
  intro z_n
  induction z_n with
  | zero => intro zg zi q_f q_i q_o q_w q_m; omega
  | succ z_n z_ih =>
    intro zg zi q_f q_i q_o q_w q_m
    have q_N := q_g.1
    refine wp_run (k := 2) (pc1 := 74) (l1 := [(0, .ref 55), (1, .int (iN (R))), (2, .int (iN (zp))), (3, .int (iN (zi)))]) (st1 := [.int (iN (R)), .int (iN (zi))]) (kr1 := (78, 76)) (h1 := zg) rfl ?_
    refine wp_gt (a := zi) (b := R) rfl (by omega) (by omega) (fun b_74 => ?_) (fun b_74 => ?_)
    · have y_9 : zi = R + 1 := by omega
      rw [y_9]
      exact zk zg q_f q_o (fun c y1 y2 => q_w c y1 (by omega))
    · refine wp_run (k := 4) (pc1 := 81) (l1 := [(0, .ref 55), (1, .int (iN (R))), (2, .int (iN (zp))), (3, .int (iN (zi)))]) (st1 := [.int (iN (R)), .int (iN (zi)), .int (iN (zp)), .ref 55]) (kr1 := (78, 76)) (h1 := zg) rfl ?_
      refine wp_call (md1 := am_m_Model_bounds) (As := [.ref 55, .int (iN (zp)), .int (iN (zi)), .int (iN (R))]) (rest := []) (kr1 := (78, 76)) rfl (jm_bounds (R := R) (zp := zp) (zc := zi) _ (by omega) (zMm_f q_f q_nm (by decide) (by decide)) q_g q_R q_p (by omega) (fun c y1 y2 => (q_o (zp + 1) c (by omega) (by omega) y1 y2).1)) ?_
      rintro _ _ ⟨rfl, rfl⟩
      refine wp_run (k := 2) (pc1 := 72) (l1 := [(0, .ref 55), (1, .int (iN (R))), (2, .int (iN (zp))), (3, .int (iN ((zi) + 1)))]) (st1 := []) (kr1 := (78, 76)) (h1 := zH2 zg (121 * zp + zi) (zBx G zp (zAb N G S T R zp) zi (zg.1 70 (121 * zp + zi).toNat).toInt (zBn G R zp zi))) (Eq.trans (b := (some (72, [(0, .ref 55), (1, .int (iN (R))), (2, .int (iN (zp))), (3, .int ((iN (zi)) + iN (1)))], [], (78, 76), zH2 zg (121 * zp + zi) (zBx G zp (zAb N G S T R zp) zi (zg.1 70 (121 * zp + zi).toNat).toInt (zBn G R zp zi))) : Option am_C)) rfl (by simp only [Int32.ofInt_add, Int32.ofInt_sub, Int32.ofInt_mul, Int32.ofInt_neg])) ?_
      refine z_ih (zH2 zg (121 * zp + zi) (zBx G zp (zAb N G S T R zp) zi (zg.1 70 (121 * zp + zi).toNat).toInt (zBn G R zp zi))) (zi + 1) (am_fr_t q_f (zH2_fr _ _ _)) (by omega) (fun p c y1 y2 y3 y4 => ?_) (fun c y1 y2 => ?_) (by omega)
      · rw [(zH2_o zg (121 * zp + zi) _ (show (121 * p + c).toNat ≠ (121 * zp + zi).toNat by omega)).1, (zH2_o zg (121 * zp + zi) _ (show (121 * p + c).toNat ≠ (121 * zp + zi).toNat by omega)).2]; exact q_o p c y1 y2 y3 y4
      by_cases y3 : c = zi
      · have y5 := (zBx_le (G := G) (p := zp) (A := (zAb N G S T R zp)) (c := zi) (j := 0) (zBn G R zp zi)).2.2.2 ((zg.1 70 (121 * zp + zi).toNat).toInt)
        have y6 := zVb_s N G S T R zp zi q_p.2
        rw [y3, zH2_1, zH2_2, y5.1, y6]
        exact ⟨rfl, fun _ y7 => by rw [y5.2 y7]; rfl⟩
      · rw [(zH2_o zg (121 * zp + zi) _ (show (121 * zp + c).toNat ≠ (121 * zp + zi).toNat by omega)).1, (zH2_o zg (121 * zp + zi) _ (show (121 * zp + c).toNat ≠ (121 * zp + zi).toNat by omega)).2]; exact q_w c y1 (by omega)
set_option maxRecDepth 20000 in
set_option maxHeartbeats 4000000 in
theorem jl_mbrows (zd : Nat) (q_d : 4 ≤ zd) {zh : am_H} {N : Int} {G : Int → Int → Int} {S T : Int} {R : Int} (q_nm : zMm (zh.1 55) (zh.1 56) N G S T) (q_g : zGk N G S T) (q_R : 0 ≤ R ∧ R ≤ 120) {zQ : Option Value → am_H → Prop} (zk : ∀ zg : am_H, am_fr [69, 70] zh zg → (∀ p c : Int, 0 ≤ p → p ≤ N → 0 ≤ c → c ≤ R → zg.1 69 (121 * p + c).toNat = iN (zVb N G S T R p c) ∧ (p < N → zVb N G S T R p c < 1000000000 → zg.1 70 (121 * p + c).toNat = iN (zPk N G S T R p c))) → am_wp zd am_m_Model_boundedNow 96 [(0, .ref 55), (1, .int (iN (R))), (2, .int (iN (-1)))] [] (78, 76) zg (78, 76) zQ) : ∀ (z_n : Nat) (zg : am_H) (zp : Int) (q_f : am_fr [69, 70] zh zg) (q_p : -1 ≤ zp ∧ zp < N) (q_w : ∀ p c : Int, zp < p → p ≤ N → 0 ≤ c → c ≤ R → zg.1 69 (121 * p + c).toNat = iN (zVb N G S T R p c) ∧ (p < N → zVb N G S T R p c < 1000000000 → zg.1 70 (121 * p + c).toNat = iN (zPk N G S T R p c))), zp + 2 < (z_n : Int) → am_wp zd am_m_Model_boundedNow 66 [(0, .ref 55), (1, .int (iN (R))), (2, .int (iN (zp)))] [] (78, 76) zg (78, 76) zQ := by
  obtain ⟨zd, rfl⟩ : ∃ y_e, zd = y_e + 4 := ⟨zd - 4, by omega⟩
  intro z_n
  induction z_n with
  | zero => intro zg zp q_f q_p q_w q_m; omega
  | succ z_n z_ih =>
    intro zg zp q_f q_p q_w q_m
    have q_N := q_g.1
    refine wp_run (k := 1) (pc1 := 67) (l1 := [(0, .ref 55), (1, .int (iN (R))), (2, .int (iN (zp)))]) (st1 := [.int (iN (zp))]) (kr1 := (78, 76)) (h1 := zg) rfl ?_
    refine wp_lt0 (a := zp) rfl (by omega) (fun b_67 => ?_) (fun b_67 => ?_)
    · have y_9 : zp = -1 := by omega
      rw [y_9]
      exact zk zg q_f (fun p c y1 y2 y3 y4 => q_w p c (by omega) y2 y3 y4)
    · refine wp_run (k := 2) (pc1 := 72) (l1 := [(0, .ref 55), (1, .int (iN (R))), (2, .int (iN (zp))), (3, .int (iN (0)))]) (st1 := []) (kr1 := (78, 76)) (h1 := zg) rfl ?_
      refine jl_mbone (zh := zh) _ (by omega) q_nm q_g q_R (zp := zp) (by omega) ?_ 130 zg 0 q_f (by omega) q_w (fun c y1 y2 => by omega) (by omega)
      intro zg2 q_f2 q_o2 q_w2
      refine wp_run (k := 2) (pc1 := 66) (l1 := [(0, .ref 55), (1, .int (iN (R))), (2, .int (iN ((zp) + (-1)))), (3, .int (iN (R + 1)))]) (st1 := []) (kr1 := (78, 76)) (h1 := zg2) (Eq.trans (b := (some (66, [(0, .ref 55), (1, .int (iN (R))), (2, .int ((iN (zp)) + iN (-1))), (3, .int (iN (R + 1)))], [], (78, 76), zg2) : Option am_C)) rfl (by simp only [Int32.ofInt_add, Int32.ofInt_sub, Int32.ofInt_mul, Int32.ofInt_neg])) ?_
      refine wp_drop [3] (l := [(0, .ref 55), (1, .int (iN (R))), (2, .int (iN ((zp) + (-1))))]) rfl rfl ?_
      refine z_ih zg2 (zp + (-1)) q_f2 (by omega) (fun p c y1 y2 y3 y4 => ?_) (by omega)
      by_cases y5 : p = zp
      · rw [y5]; exact q_w2 c y3 y4
      · exact q_o2 p c (by omega) y2 y3 y4
set_option maxRecDepth 20000 in
set_option maxHeartbeats 4000000 in
theorem jl_mbtake (zd : Nat) (q_d : 4 ≤ zd) {zh : am_H} {N : Int} {G : Int → Int → Int} {S T : Int} {R : Int} (q_nm : zMm (zh.1 55) (zh.1 56) N G S T) (q_g : zGk N G S T) (q_R : 0 ≤ R ∧ R ≤ 120) (q_ls : ∀ p c : Int, 0 ≤ p → p ≤ N → 0 ≤ c → c ≤ R → zh.1 69 (121 * p + c).toNat = iN (zVb N G S T R p c) ∧ (p < N → zVb N G S T R p c < 1000000000 → zh.1 70 (121 * p + c).toNat = iN (zPk N G S T R p c))) (q_lt : zVb N G S T R 0 0 < 1000000000) {zQ : Option Value → am_H → Prop} (zk : ∀ zg : am_H, am_fr [71] zh zg → zHd (zg.1 71) (zBm N G S T R) N → zQ (some (.int (iN (zVb N G S T R 0 0)))) zg) : ∀ (z_n : Nat) (zg : am_H) (zi : Int) (q_f : am_fr [71] zh zg) (q_i : 0 ≤ zi ∧ zi ≤ N) (q_w : ∀ x : Int, 0 ≤ x → x < zi → zg.1 71 x.toNat = iN (zBm N G S T R x)), N - zi < (z_n : Int) → am_wp zd am_m_Model_boundedNow 114 [(0, .ref 55), (1, .int (iN (R))), (2, .int (iN (zCp N G S T R zi.toNat))), (3, .int (iN (zi)))] [] (78, 76) zg (78, 76) zQ := by
  obtain ⟨zd, rfl⟩ : ∃ y_e, zd = y_e + 4 := ⟨zd - 4, by omega⟩
  intro z_n
  induction z_n with
  | zero => intro zg zi q_f q_i q_w q_m; omega
  | succ z_n z_ih =>
    intro zg zi q_f q_i q_w q_m
    have q_N := q_g.1
    refine wp_run (k := 3) (pc1 := 119) (l1 := [(0, .ref 55), (1, .int (iN (R))), (2, .int (iN (zCp N G S T R zi.toNat))), (3, .int (iN (zi)))]) (st1 := [.int (iN (N)), .int (iN (zi))]) (kr1 := (78, 76)) (h1 := zg) (Eq.trans (b := (some (119, [(0, .ref 55), (1, .int (iN (R))), (2, .int (iN (zCp N G S T R zi.toNat))), (3, .int (iN (zi)))], [.int (zg.1 55 0), .int (iN (zi))], (78, 76), zg) : Option am_C)) rfl (by simp only [(show (zg).1 55 0 = iN N from (congrFun ((q_f).2 55 (by decide)) 0).trans q_nm.1), Int32.ofInt_add, Int32.ofInt_sub, Int32.ofInt_mul, Int32.ofInt_neg])) ?_
    refine wp_ge (a := zi) (b := N) rfl (by omega) (by omega) (fun b_119 => ?_) (fun b_119 => ?_)
    · refine wp_run (k := 3) (pc1 := 159) (l1 := [(0, .ref 55), (1, .int (iN (R))), (2, .int (iN (zCp N G S T R zi.toNat))), (3, .int (iN (zi)))]) (st1 := [.int (iN (0)), .ref 69]) (kr1 := (78, 76)) (h1 := zg) rfl ?_
      refine wp_iald (f := zg.1 69) (z := 0) (j := 0) (n := 2057) (v := iN (zVb N G S T R 0 0)) rfl rfl (by omega) (by omega) (by decide) ((congrFun (q_f.2 69 (by decide)) _).trans (q_ls 0 0 (by omega) (by omega) (by omega) (by omega)).1) ?_
      refine wp_ret (rv := some (.int (iN (zVb N G S T R 0 0)))) rfl ?_
      exact zk zg q_f (fun x y1 y2 => q_w x y1 (by omega))
    · have y_c := zCp_ok q_g q_R q_lt zi.toNat (by omega)
      rw [show (zi.toNat : Int) = zi by omega] at y_c
      have y_pk := zPk_ok q_g q_R (p := zi) (c := zCp N G S T R zi.toNat) (by omega) (by omega) y_c.2.2
      have y_5 := q_g.2.1 5 zi (by omega) (by omega) (by omega) (by omega)
      have y_v := (show vmax 5 = 999 from rfl)
      refine wp_run (k := 10) (pc1 := 137) (l1 := [(0, .ref 55), (1, .int (iN (R))), (2, .int (iN (zCp N G S T R zi.toNat))), (3, .int (iN (zi)))]) (st1 := [.int (iN (((121) * (zi)) + (zCp N G S T R zi.toNat))), .ref 70, .int (iN (zi)), .ref 71]) (kr1 := (78, 76)) (h1 := zg) (Eq.trans (b := (some (137, [(0, .ref 55), (1, .int (iN (R))), (2, .int (iN (zCp N G S T R zi.toNat))), (3, .int (iN (zi)))], [.int (((iN (121)) * (iN (zi))) + (iN (zCp N G S T R zi.toNat))), .ref 70, .int (iN (zi)), .ref 71], (78, 76), zg) : Option am_C)) rfl (by simp only [Int32.ofInt_add, Int32.ofInt_sub, Int32.ofInt_mul, Int32.ofInt_neg])) ?_
      refine wp_iald (f := zg.1 70) (z := ((121) * (zi)) + (zCp N G S T R zi.toNat)) (j := (121 * zi + zCp N G S T R zi.toNat).toNat) (n := 2057) (v := iN (zPk N G S T R zi (zCp N G S T R zi.toNat))) rfl rfl (by omega) (by omega) (by decide) ((congrFun (q_f.2 70 (by decide)) _).trans ((q_ls zi (zCp N G S T R zi.toNat) (by omega) (by omega) (by omega) (by omega)).2 (by omega) y_c.2.2)) ?_
      refine wp_iast (z := zi) (j := zi.toNat) (n := 16) rfl (by decide) (by decide) rfl rfl (by omega) (by omega) (by decide) ?_
      refine wp_run (k := 4) (pc1 := 145) (l1 := [(0, .ref 55), (1, .int (iN (R))), (2, .int (iN (zCp N G S T R zi.toNat))), (3, .int (iN (zi)))]) (st1 := [.int (iN (zi)), .ref 71, .int (iN (zCp N G S T R zi.toNat))]) (kr1 := (78, 76)) (h1 := am_wr zg 71 (zi.toNat) (iN (zPk N G S T R zi (zCp N G S T R zi.toNat)))) rfl ?_
      refine wp_iald (f := (am_wr zg 71 (zi.toNat) (iN (zPk N G S T R zi (zCp N G S T R zi.toNat)))).1 71) (z := zi) (j := zi.toNat) (n := 16) (v := iN (zPk N G S T R zi (zCp N G S T R zi.toNat))) rfl rfl (by omega) (by omega) (by decide) (am_wr_at) ?_
      refine wp_run (k := 4) (pc1 := 114) (l1 := [(0, .ref 55), (1, .int (iN (R))), (2, .int (iN ((zCp N G S T R zi.toNat) + (zPk N G S T R zi (zCp N G S T R zi.toNat))))), (3, .int (iN ((zi) + 1)))]) (st1 := []) (kr1 := (78, 76)) (h1 := am_wr zg 71 (zi.toNat) (iN (zPk N G S T R zi (zCp N G S T R zi.toNat)))) (Eq.trans (b := (some (114, [(0, .ref 55), (1, .int (iN (R))), (2, .int ((iN (zCp N G S T R zi.toNat)) + (iN (zPk N G S T R zi (zCp N G S T R zi.toNat))))), (3, .int ((iN (zi)) + iN (1)))], [], (78, 76), am_wr zg 71 (zi.toNat) (iN (zPk N G S T R zi (zCp N G S T R zi.toNat)))) : Option am_C)) rfl (by simp only [Int32.ofInt_add, Int32.ofInt_sub, Int32.ofInt_mul, Int32.ofInt_neg])) ?_
      have y_cs : zCp N G S T R (zi + 1).toNat = (zCp N G S T R zi.toNat) + (zPk N G S T R zi (zCp N G S T R zi.toNat)) := by rw [show (zi + 1).toNat = zi.toNat + 1 by omega]; show zCp N G S T R zi.toNat + zPk N G S T R (zi.toNat : Int) (zCp N G S T R zi.toNat) = _; rw [show (zi.toNat : Int) = zi by omega]
      rw [← y_cs]
      refine z_ih (am_wr zg 71 (zi.toNat) (iN (zPk N G S T R zi (zCp N G S T R zi.toNat)))) (zi + 1) (am_fr_w q_f (by decide) _ _) (by omega) (fun x y1 y2 => ?_) (by omega)
      by_cases y3 : x = zi
      · rw [y3, am_wr_at, show zBm N G S T R zi = zPk N G S T R zi (zCp N G S T R zi.toNat) from if_pos (by omega)]
      · rw [am_wr_no (by omega)]; exact q_w x y1 (by omega)
set_option maxRecDepth 20000 in
set_option maxHeartbeats 4000000 in
theorem jm_bounded (zd : Nat) (q_d : 4 ≤ zd) {zh : am_H} {N : Int} {G : Int → Int → Int} {S T : Int} (q_nm : zMm (zh.1 55) (zh.1 56) N G S T) (q_g : zGk N G S T) : am_wp zd am_m_Model_boundedNow 0 [(0, .ref 55)] [] (78, 76) zh (78, 76) (fun rv h' => rv = some (.int (iN (if zBst N G S T = 0 then zVb N G S T (zD G 0 (N - 1)) 0 0 else zBst N G S T))) ∧ am_fr [69, 70, 71] zh h' ∧ (zBst N G S T = 0 → zHd (h'.1 71) (zBm N G S T (zD G 0 (N - 1))) N)) := by
  obtain ⟨zd, rfl⟩ : ∃ y_e, zd = y_e + 4 := ⟨zd - 4, by omega⟩
  have q_N := q_g.1
  have y_d := zD_rg q_g (a := 0) (b := N - 1) (by omega) (by omega) (by omega)
  refine wp_run (k := 6) (pc1 := 8) (l1 := [(0, .ref 55)]) (st1 := [.int (iN ((N) - (1))), .int (iN (0)), .ref 55]) (kr1 := (78, 76)) (h1 := zh) (Eq.trans (b := (some (8, [(0, .ref 55)], [.int ((zh.1 55 0) - (iN (1))), .int (iN (0)), .ref 55], (78, 76), zh) : Option am_C)) rfl (by simp only [q_nm.1, Int32.ofInt_add, Int32.ofInt_sub, Int32.ofInt_mul, Int32.ofInt_neg])) ?_
  refine wp_call (md1 := am_m_Model_demand) (As := [.ref 55, .int (iN (0)), .int (iN ((N) - (1)))]) (rest := []) (kr1 := (78, 76)) rfl (jm_demand _ (by omega) q_nm q_g (za := 0) (zb := (N) - (1)) (by omega)) ?_
  rintro _ _ ⟨rfl, rfl⟩
  refine wp_run (k := 3) (pc1 := 15) (l1 := [(0, .ref 55), (1, .int (iN (zD G (0) ((N) - (1)))))]) (st1 := [.int (iN (120)), .int (iN (zD G (0) ((N) - (1))))]) (kr1 := (78, 76)) (h1 := zh) rfl ?_
  refine wp_le (a := zD G (0) ((N) - (1))) (b := 120) rfl (by omega) (by omega) (fun b_15 => ?_) (fun b_15 => ?_)
  · refine wp_run (k := 2) (pc1 := 23) (l1 := [(0, .ref 55), (1, .int (iN (zD G (0) ((N) - (1))))), (2, .int (iN (0)))]) (st1 := []) (kr1 := (78, 76)) (h1 := zh) rfl ?_
    refine jl_mbrow (R := zD G 0 (N - 1)) _ (by omega) q_nm q_g (by omega) ?_ 130 zh 0 (am_fr_0 _ _) (by omega) (fun c y1 y2 => by omega) (by omega)
    intro zg1 q_f1 q_w1
    refine wp_run (k := 5) (pc1 := 66) (l1 := [(0, .ref 55), (1, .int (iN (zD G (0) ((N) - (1))))), (2, .int (iN ((N) - (1))))]) (st1 := []) (kr1 := (78, 76)) (h1 := zg1) (Eq.trans (b := (some (66, [(0, .ref 55), (1, .int (iN (zD G (0) ((N) - (1))))), (2, .int ((zg1.1 55 0) - (iN (1))))], [], (78, 76), zg1) : Option am_C)) rfl (by simp only [(congrFun (q_f1.2 55 (by decide)) 0).trans q_nm.1, Int32.ofInt_add, Int32.ofInt_sub, Int32.ofInt_mul, Int32.ofInt_neg])) ?_
    refine jl_mbrows (zh := zh) (R := zD G 0 (N - 1)) _ (by omega) q_nm q_g (by omega) ?_ 20 zg1 (N - 1) (am_fr_m q_f1 (fun c y => by simp only [List.mem_cons, List.not_mem_nil, or_false] at y ⊢; omega)) (by omega) (fun p c y1 y2 y3 y4 => ⟨by rw [show p = N by omega]; exact q_w1 c y3 y4, fun y => by omega⟩) (by omega)
    intro zg2 q_f2 q_ls2
    have y_vb := zVb_r (S := S) (T := T) q_g (R := zD G 0 (N - 1)) (by omega) (p := 0) (c := 0) (by omega) (by omega)
    refine wp_run (k := 3) (pc1 := 101) (l1 := [(0, .ref 55), (1, .int (iN (zD G (0) ((N) - (1))))), (2, .int (iN (-1)))]) (st1 := [.int (iN (0)), .ref 69]) (kr1 := (78, 76)) (h1 := zg2) rfl ?_
    refine wp_iald (f := zg2.1 69) (z := 0) (j := 0) (n := 2057) (v := iN (zVb N G S T (zD G 0 (N - 1)) 0 0)) rfl rfl (by omega) (by omega) (by decide) ((q_ls2 0 0 (by omega) (by omega) (by omega) (by omega)).1) ?_
    refine wp_run (k := 1) (pc1 := 104) (l1 := [(0, .ref 55), (1, .int (iN (zD G (0) ((N) - (1))))), (2, .int (iN (-1)))]) (st1 := [.int (iN (1000000000)), .int (iN (zVb N G S T (zD G 0 (N - 1)) 0 0))]) (kr1 := (78, 76)) (h1 := zg2) rfl ?_
    refine wp_lt (a := zVb N G S T (zD G 0 (N - 1)) 0 0) (b := 1000000000) rfl (by omega) (by omega) (fun b_104 => ?_) (fun b_104 => ?_)
    · refine wp_run (k := 4) (pc1 := 114) (l1 := [(0, .ref 55), (1, .int (iN (zD G (0) ((N) - (1))))), (2, .int (iN (0))), (3, .int (iN (0)))]) (st1 := []) (kr1 := (78, 76)) (h1 := zg2) rfl ?_
      refine jl_mbtake (zh := zg2) (R := zD G 0 (N - 1)) _ (by omega) (zMm_f q_f2 q_nm (by decide) (by decide)) q_g (by omega) q_ls2 (by omega) ?_ 20 zg2 0 (am_fr_0 _ _) (by omega) (fun x y1 y2 => by omega) (by omega)
      intro zg3 q_f3 q_w3
      have y_b : zBst N G S T = 0 := by unfold zBst; rw [if_neg (by omega), if_pos (by omega)]
      exact ⟨by rw [if_pos y_b], am_fr_t (am_fr_m q_f2 (fun c y => by simp only [List.mem_cons, List.not_mem_nil, or_false] at y ⊢; omega)) (am_fr_m q_f3 (fun c y => by simp only [List.mem_cons, List.not_mem_nil, or_false] at y ⊢; omega)), fun _ => q_w3⟩
    · refine wp_run (k := 1) (pc1 := 109) (l1 := [(0, .ref 55), (1, .int (iN (zD G (0) ((N) - (1))))), (2, .int (iN (-1)))]) (st1 := [.int (iN (-2))]) (kr1 := (78, 76)) (h1 := zg2) rfl ?_
      refine wp_ret (rv := some (.int (iN (-2)))) rfl ?_
      have y_b : zBst N G S T = -2 := by unfold zBst; rw [if_neg (by omega), if_neg (by omega)]
      exact ⟨by rw [if_neg (by omega), y_b], am_fr_m q_f2 (fun c y => by simp only [List.mem_cons, List.not_mem_nil, or_false] at y ⊢; omega), fun y => by omega⟩
  · refine wp_run (k := 1) (pc1 := 20) (l1 := [(0, .ref 55), (1, .int (iN (zD G (0) ((N) - (1)))))]) (st1 := [.int (iN (-7))]) (kr1 := (78, 76)) (h1 := zh) rfl ?_
    refine wp_ret (rv := some (.int (iN (-7)))) rfl ?_
    have y_b : zBst N G S T = -7 := by unfold zBst; rw [if_pos (by omega)]
    exact ⟨by rw [if_neg (by omega), y_b], am_fr_0 _ _, fun y => by omega⟩
