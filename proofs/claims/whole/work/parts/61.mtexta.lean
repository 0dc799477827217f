/-! TEXTS THAT ARE READ: the reference's clauses, one behind the other -/
theorem zTf_b {F : Int → Int} {L N : Int} : ∀ (k : Nat) (i c : Int) (G : Int → Int → Int), 0 ≤ i → i ≤ L → 0 ≤ c → (zTf F L N k i c G).1 ≤ -100 ∨ c + 1 ≤ (zTf F L N k i c G).1 ∧ (zTf F L N k i c G).1 ≤ c + k := by
  intro k
  induction k with
  | zero => intro i c G q1 q2 q3; exact Or.inl (by show -100 - i ≤ -100; omega)
  | succ k z_ih =>
    intro i c G q1 q2 q3
    have y := zCs_rg (F := F) (L := L) (N := N) (i := i) ⟨q1, q2⟩
    have e1 : zTf F L N (k + 1) i c G = if (zCs F L N i).1 = 1 then (if (zCs F L N i).2.2.2.2 = L then (c + 1, zTg G N (zCs F L N i).2.1 (zCs F L N i).2.2.1 (zCs F L N i).2.2.2.1) else if zSg F L (zCs F L N i).2.2.2.2 = 59 then zTf F L N k ((zCs F L N i).2.2.2.2 + 1) (c + 1) (zTg G N (zCs F L N i).2.1 (zCs F L N i).2.2.1 (zCs F L N i).2.2.2.1) else (-100 - (zCs F L N i).2.2.2.2, G)) else (-100 - (zCs F L N i).2.2.2.2, G) := rfl
    rw [e1]
    by_cases z1 : (zCs F L N i).1 = 1
    · rw [if_pos z1]
      by_cases z2 : (zCs F L N i).2.2.2.2 = L
      · rw [if_pos z2]; dsimp only; omega
      · rw [if_neg z2]
        by_cases z3 : zSg F L (zCs F L N i).2.2.2.2 = 59
        · rw [if_pos z3]
          have y2 := z_ih ((zCs F L N i).2.2.2.2 + 1) (c + 1) (zTg G N (zCs F L N i).2.1 (zCs F L N i).2.2.1 (zCs F L N i).2.2.2.1) (by omega) (by omega) (by omega)
          omega
        · rw [if_neg z3]; dsimp only; omega
    · rw [if_neg z1]; dsimp only; omega
set_option maxRecDepth 20000 in
set_option maxHeartbeats 4000000 in
theorem jl_clauses0 (zd : Nat) (q_d : 7 ≤ zd) {zh : am_H} {F : Int → Int} {zl : Int} {N : Int} {G : Int → Int → Int} {S T : Int} {zU : Int × (Int → Int → Int)} (q_ln : zh.1 55 9 = iN zl) (q_r : 0 ≤ zl ∧ zl ≤ 120) (q_f : ∀ k : Int, 0 ≤ k → k < zl → zh.1 59 k.toNat = iN (F k)) (q_c : ∀ k : Int, 0 ≤ k → k < zl → 32 ≤ F k ∧ F k ≤ 126) (q_nm : zMm (zh.1 55) (zh.1 56) N G S T) (q_g : zGk N G S T) (q_t : zh.1 55 12 = iN 0) {zQ : Option Value → am_H → Prop} (zk : ∀ (h' : am_H) (zr : Int), (0 ≤ zU.1 → zr = zU.1 ∧ ∃ x g : Int, zS3 zh x (-1) g = h') → (zU.1 < 0 → zr = 0 ∧ ∃ x g : Int, zS3 zh x (-100 - zU.1) g = h') → zQ (some (.int (iN zr))) h') : ∀ (z_n : Nat) (zi : Int) (zc : Int) (zg : Int) (zK : Int → Int → Int) (zf : Nat) (q_i : 0 ≤ zi ∧ zi ≤ zl ∧ zl - zi < zf ∧ 0 ≤ zc) (q_gk : zGk N zK S T) (q_z : zTf F zl N zf zi zc zK = zU), zl + 1 - zi < (z_n : Int) → am_wp zd am_m_Model_clauses 19 [(0, .ref 55), (1, .int (iN (0))), (2, .int (iN (zc))), (3, .int (iN (1)))] [] (78, 76) (zS3 zh zi (-1) zg) (78, 76) zQ := by
  obtain ⟨zd, rfl⟩ : ∃ y_e, zd = y_e + 7 := ⟨zd - 7, by omega⟩
  intro z_n
  induction z_n with
  | zero => intro zi zc zg zK zf q_i q_gk q_z q_m; omega
  | succ z_n z_ih =>
    intro zi zc zg zK zf q_i q_gk q_z q_m
    have q_N := q_g.1
    refine wp_run (k := 1) (pc1 := 20) (l1 := [(0, .ref 55), (1, .int (iN (0))), (2, .int (iN (zc))), (3, .int (iN (1)))]) (st1 := [.int (iN (1))]) (kr1 := (78, 76)) (h1 := zS3 zh zi (-1) zg) rfl ?_
    refine wp_eq0 (a := 1) rfl (by omega) (fun b_20 => ?_) (fun b_20 => ?_)
    · exact absurd b_20 (by decide)
    · refine wp_run (k := 1) (pc1 := 24) (l1 := [(0, .ref 55), (1, .int (iN (0))), (2, .int (iN (zc))), (3, .int (iN (1)))]) (st1 := [.ref 55]) (kr1 := (78, 76)) (h1 := zS3 zh zi (-1) zg) rfl ?_
      refine wp_call (md1 := am_m_Model_isClause) (As := [.ref 55]) (rest := []) (kr1 := (78, 76)) rfl (jm_clause0 (zi := zi) _ (by omega) q_ln q_r q_f q_c (by omega) q_nm q_g q_t) ?_
      rintro _ zg1 ⟨rfl, q_x1, q_y1⟩
      have y_C := zCs_rg (F := F) (L := zl) (N := N) (i := zi) (by omega)
      have y_sg := zSg_rg (i := (zCs F zl N zi).2.2.2.2) q_c
      refine wp_run (k := 3) (pc1 := 32) (l1 := [(0, .ref 55), (1, .int (iN (0))), (2, .int (iN ((zc) + 1))), (3, .int (iN (bI ((zCs F zl N zi).1 = 1) inferInstance)))]) (st1 := [.int (iN (bI ((zCs F zl N zi).1 = 1) inferInstance))]) (kr1 := (78, 76)) (h1 := zg1) (Eq.trans (b := (some (32, [(0, .ref 55), (1, .int (iN (0))), (2, .int ((iN (zc)) + iN (1))), (3, .int (iN (bI ((zCs F zl N zi).1 = 1) inferInstance)))], [.int (iN (bI ((zCs F zl N zi).1 = 1) inferInstance))], (78, 76), zg1) : Option am_C)) rfl (by simp only [Int32.ofInt_add, Int32.ofInt_sub, Int32.ofInt_mul, Int32.ofInt_neg])) ?_
      refine wp_eqb rfl (fun b_32 => ?_) (fun b_32 => ?_)
      · refine wp_run (k := 1) (pc1 := 49) (l1 := [(0, .ref 55), (1, .int (iN (0))), (2, .int (iN ((zc) + 1))), (3, .int (iN (bI ((zCs F zl N zi).1 = 1) inferInstance)))]) (st1 := [.int (iN (bI ((zCs F zl N zi).1 = 1) inferInstance))]) (kr1 := (78, 76)) (h1 := zg1) rfl ?_
        refine wp_eqb rfl (fun b_49 => ?_) (fun b_49 => ?_)
        · refine wp_run (k := 3) (pc1 := 19) (l1 := [(0, .ref 55), (1, .int (iN (0))), (2, .int (iN ((zc) + 1))), (3, .int (iN (0)))]) (st1 := []) (kr1 := (78, 76)) (h1 := zg1) rfl ?_
          refine wp_run (k := 1) (pc1 := 20) (l1 := [(0, .ref 55), (1, .int (iN (0))), (2, .int (iN ((zc) + 1))), (3, .int (iN (0)))]) (st1 := [.int (iN (0))]) (kr1 := (78, 76)) (h1 := zg1) rfl ?_
          refine wp_eq0 (a := 0) rfl (by omega) (fun b_20_4 => ?_) (fun b_20_4 => ?_)
          · refine wp_run (k := 1) (pc1 := 71) (l1 := [(0, .ref 55), (1, .int (iN (0))), (2, .int (iN ((zc) + 1))), (3, .int (iN (0)))]) (st1 := [.int (iN (0))]) (kr1 := (78, 76)) (h1 := zg1) rfl ?_
            refine wp_ret (rv := some (.int (iN (0)))) rfl ?_
            obtain ⟨zf1, y_k⟩ : ∃ y, zf = y + 1 := ⟨zf - 1, by omega⟩
            subst y_k
            have y_U : zU = (-100 - (zCs F zl N zi).2.2.2.2, zK) := q_z.symm.trans (if_neg b_32)
            obtain ⟨x5, g5, y_h5⟩ := q_y1 b_32
            exact zk _ _ (fun y => by rw [y_U] at y; dsimp only at y; omega) (fun _ => ⟨rfl, x5, g5, by rw [y_U]; dsimp only; rw [show -100 - (-100 - (zCs F zl N zi).2.2.2.2) = (zCs F zl N zi).2.2.2.2 by omega]; exact y_h5⟩)
          · exact absurd b_20_4 (by decide)
        · exact absurd b_49 b_32
      · obtain ⟨zg5, y_h5⟩ := q_x1 b_32
        rw [← y_h5]
        refine wp_run (k := 4) (pc1 := 43) (l1 := [(0, .ref 55), (1, .int (iN (0))), (2, .int (iN ((zc) + 1))), (3, .int (iN (bI ((zCs F zl N zi).1 = 1) inferInstance)))]) (st1 := [.int (iN (zl)), .int (iN ((zCs F zl N zi).2.2.2.2))]) (kr1 := (78, 76)) (h1 := zS3 zh ((zCs F zl N zi).2.2.2.2) (-1) (zg5)) (Eq.trans (b := (some (43, [(0, .ref 55), (1, .int (iN (0))), (2, .int (iN ((zc) + 1))), (3, .int (iN (bI ((zCs F zl N zi).1 = 1) inferInstance)))], [.int ((zS3 zh ((zCs F zl N zi).2.2.2.2) (-1) (zg5)).1 55 9), .int ((zS3 zh ((zCs F zl N zi).2.2.2.2) (-1) (zg5)).1 55 8)], (78, 76), zS3 zh ((zCs F zl N zi).2.2.2.2) (-1) (zg5)) : Option am_C)) rfl (by simp only [(show (zS3 zh ((zCs F zl N zi).2.2.2.2) (-1) (zg5)).1 55 8 = iN ((zCs F zl N zi).2.2.2.2) from (zS3_a _ _ _ _).1), (show (zS3 zh ((zCs F zl N zi).2.2.2.2) (-1) (zg5)).1 55 9 = iN zl from (zS3_s _ _ _ _ (by decide) (by decide) (by decide)).trans q_ln), Int32.ofInt_add, Int32.ofInt_sub, Int32.ofInt_mul, Int32.ofInt_neg])) ?_
        refine wp_ne (a := (zCs F zl N zi).2.2.2.2) (b := zl) rfl (by omega) (by omega) (fun b_43 => ?_) (fun b_43 => ?_)
        · refine wp_run (k := 1) (pc1 := 49) (l1 := [(0, .ref 55), (1, .int (iN (0))), (2, .int (iN ((zc) + 1))), (3, .int (iN (bI ((zCs F zl N zi).1 = 1) inferInstance)))]) (st1 := [.int (iN (bI ((zCs F zl N zi).1 = 1) inferInstance))]) (kr1 := (78, 76)) (h1 := zS3 zh ((zCs F zl N zi).2.2.2.2) (-1) (zg5)) rfl ?_
          refine wp_eqb rfl (fun b_49_6 => ?_) (fun b_49_6 => ?_)
          · exact absurd b_32 b_49_6
          · refine wp_run (k := 2) (pc1 := 55) (l1 := [(0, .ref 55), (1, .int (iN (0))), (2, .int (iN ((zc) + 1))), (3, .int (iN (bI ((zCs F zl N zi).1 = 1) inferInstance)))]) (st1 := [.int (iN (59)), .ref 55]) (kr1 := (78, 76)) (h1 := zS3 zh ((zCs F zl N zi).2.2.2.2) (-1) (zg5)) rfl ?_
            refine wp_call (md1 := am_m_Model_isSign) (As := [.ref 55, .int (iN (59))]) (rest := []) (kr1 := (78, 76)) rfl (jm_isSign _ (by omega) (F := F) (zl := zl) (zi := (zCs F zl N zi).2.2.2.2) (zc := 59) q_ln q_r q_f q_c (by omega) (by omega)) ?_
            rintro _ zg2 ⟨rfl, q_x2, q_y2⟩
            refine wp_eqb rfl (fun b_58 => ?_) (fun b_58 => ?_)
            · refine wp_run (k := 3) (pc1 := 19) (l1 := [(0, .ref 55), (1, .int (iN (0))), (2, .int (iN ((zc) + 1))), (3, .int (iN (0)))]) (st1 := []) (kr1 := (78, 76)) (h1 := zg2) rfl ?_
              refine wp_run (k := 1) (pc1 := 20) (l1 := [(0, .ref 55), (1, .int (iN (0))), (2, .int (iN ((zc) + 1))), (3, .int (iN (0)))]) (st1 := [.int (iN (0))]) (kr1 := (78, 76)) (h1 := zg2) rfl ?_
              refine wp_eq0 (a := 0) rfl (by omega) (fun b_20_8 => ?_) (fun b_20_8 => ?_)
              · refine wp_run (k := 1) (pc1 := 71) (l1 := [(0, .ref 55), (1, .int (iN (0))), (2, .int (iN ((zc) + 1))), (3, .int (iN (0)))]) (st1 := [.int (iN (0))]) (kr1 := (78, 76)) (h1 := zg2) rfl ?_
                refine wp_ret (rv := some (.int (iN (0)))) rfl ?_
                obtain ⟨zf1, y_k⟩ : ∃ y, zf = y + 1 := ⟨zf - 1, by omega⟩
                subst y_k
                have y_U : zU = (-100 - (zCs F zl N zi).2.2.2.2, zK) := q_z.symm.trans ((if_pos (by omega)).trans ((if_neg (by omega)).trans (if_neg b_58)))
                obtain ⟨x5, g5, y_h5⟩ : ∃ x g : Int, zS3 zh x ((zCs F zl N zi).2.2.2.2) g = zg2 := ⟨_, _, q_y2 b_58⟩
                exact zk _ _ (fun y => by rw [y_U] at y; dsimp only at y; omega) (fun _ => ⟨rfl, x5, g5, by rw [y_U]; dsimp only; rw [show -100 - (-100 - (zCs F zl N zi).2.2.2.2) = (zCs F zl N zi).2.2.2.2 by omega]; exact y_h5⟩)
              · exact absurd b_20_8 (by decide)
            · refine wp_run (k := 4) (pc1 := 19) (l1 := [(0, .ref 55), (1, .int (iN (0))), (2, .int (iN ((zc) + 1))), (3, .int (iN (1)))]) (st1 := []) (kr1 := (78, 76)) (h1 := zg2) rfl ?_
              rw [← q_x2 b_58]
              obtain ⟨zf1, y_k⟩ : ∃ y, zf = y + 1 := ⟨zf - 1, by omega⟩
              subst y_k
              refine z_ih ((zCs F zl N zi).2.2.2.2 + 1) (zc + 1) zg5 (zTg zK N (zCs F zl N zi).2.1 (zCs F zl N zi).2.2.1 (zCs F zl N zi).2.2.2.1) zf1 (by omega) (zTg_gk q_gk (by omega)) ?_ (by omega)
              rw [← q_z]
              exact ((if_pos (by omega)).trans ((if_neg (by omega)).trans (if_pos (by omega)))).symm
        · refine wp_run (k := 1) (pc1 := 47) (l1 := [(0, .ref 55), (1, .int (iN (0))), (2, .int (iN ((zc) + 1))), (3, .int (iN (bI ((zCs F zl N zi).1 = 1) inferInstance)))]) (st1 := [.int (iN ((zc) + 1))]) (kr1 := (78, 76)) (h1 := zS3 zh ((zCs F zl N zi).2.2.2.2) (-1) (zg5)) rfl ?_
          refine wp_ret (rv := some (.int (iN ((zc) + 1)))) rfl ?_
          obtain ⟨zf1, y_k⟩ : ∃ y, zf = y + 1 := ⟨zf - 1, by omega⟩
          subst y_k
          have y_U : zU = (zc + 1, zTg zK N (zCs F zl N zi).2.1 (zCs F zl N zi).2.2.1 (zCs F zl N zi).2.2.2.1) := q_z.symm.trans ((if_pos (by omega)).trans (if_pos (by omega)))
          exact zk _ _ (fun _ => ⟨by rw [y_U], _, _, rfl⟩) (fun y => by rw [y_U] at y; dsimp only at y; omega)
set_option maxRecDepth 20000 in
set_option maxHeartbeats 4000000 in
theorem jm_clauses0 (zd : Nat) (q_d : 7 ≤ zd) {zh : am_H} {F : Int → Int} {zl : Int} {N : Int} {G : Int → Int → Int} {S T : Int} (q_ln : zh.1 55 9 = iN zl) (q_r : 0 ≤ zl ∧ zl ≤ 120) (q_f : ∀ k : Int, 0 ≤ k → k < zl → zh.1 59 k.toNat = iN (F k)) (q_c : ∀ k : Int, 0 ≤ k → k < zl → 32 ≤ F k ∧ F k ≤ 126) (q_nm : zMm (zh.1 55) (zh.1 56) N G S T) (q_g : zGk N G S T) : am_wp zd am_m_Model_clauses 0 [(0, .ref 55), (1, .int (iN (0)))] [] (78, 76) zh (78, 76) (fun rv h' => ∃ zr : Int, rv = some (.int (iN zr)) ∧ (0 ≤ (zTf F zl N 121 0 0 G).1 → zr = (zTf F zl N 121 0 0 G).1 ∧ ∃ x g : Int, zS3 (am_wr zh 55 12 (iN 0)) x (-1) g = h') ∧ ((zTf F zl N 121 0 0 G).1 < 0 → zr = 0 ∧ ∃ x g : Int, zS3 (am_wr zh 55 12 (iN 0)) x (-100 - (zTf F zl N 121 0 0 G).1) g = h')) := by
  obtain ⟨zd, rfl⟩ : ∃ y_e, zd = y_e + 7 := ⟨zd - 7, by omega⟩
  have q_N := q_g.1
  refine wp_run (k := 13) (pc1 := 19) (l1 := [(0, .ref 55), (1, .int (iN (0))), (2, .int (iN (0))), (3, .int (iN (1)))]) (st1 := []) (kr1 := (78, 76)) (h1 := am_wr (am_wr (am_wr zh 55 12 (iN (0))) 55 8 (iN (0))) 55 10 (iN (-1))) rfl ?_
  have y_h : am_wr (am_wr (am_wr zh 55 12 (iN (0))) 55 8 (iN (0))) 55 10 (iN (-1)) = zS3 (am_wr zh 55 12 (iN 0)) 0 (-1) ((am_wr zh 55 12 (iN 0)).1 55 11).toInt := zS3_i _ _ _
  rw [y_h]
  exact jl_clauses0 (zh := am_wr zh 55 12 (iN 0)) _ (by omega) ((am_wr_no (by decide)).trans q_ln) q_r (fun k y1 y2 => (congrFun (am_wr_ne (by decide)) _).trans (q_f k y1 y2)) q_c (zMm_g q_nm (am_wr_no (by decide)) (am_wr_ne (by decide))) q_g am_wr_at (fun h2 zr y1 y2 => ⟨zr, rfl, y1, y2⟩) 130 0 0 _ G 121 (by omega) q_g rfl (by omega)
set_option maxRecDepth 20000 in
set_option maxHeartbeats 4000000 in
theorem jl_clauses1 (zd : Nat) (q_d : 7 ≤ zd) {zh : am_H} {F : Int → Int} {zl : Int} {N : Int} {S T : Int} {zU : Int × (Int → Int → Int)} (q_ln : zh.1 55 9 = iN zl) (q_r : 0 ≤ zl ∧ zl ≤ 120) (q_f : ∀ k : Int, 0 ≤ k → k < zl → zh.1 59 k.toNat = iN (F k)) (q_c : ∀ k : Int, 0 ≤ k → k < zl → 32 ≤ F k ∧ F k ≤ 126) (q_t : zh.1 55 12 = iN 1) (q_U : 0 ≤ zU.1) {zQ : Option Value → am_H → Prop} (zk : ∀ (zb : am_H) (x g zr : Int), am_fr [56] zh zb → zMm (zb.1 55) (zb.1 56) N zU.2 S T → zQ (some (.int (iN zr))) (zS3 zb x (-1) g)) : ∀ (z_n : Nat) (zb : am_H) (zi : Int) (zc : Int) (zg : Int) (zK : Int → Int → Int) (zf : Nat) (q_fr : am_fr [56] zh zb) (q_nm1 : zMm (zb.1 55) (zb.1 56) N zK S T) (q_i : 0 ≤ zi ∧ zi ≤ zl ∧ zl - zi < zf ∧ 0 ≤ zc) (q_gk : zGk N zK S T) (q_z : zTf F zl N zf zi zc zK = zU), zl + 1 - zi < (z_n : Int) → am_wp zd am_m_Model_clauses 19 [(0, .ref 55), (1, .int (iN (1))), (2, .int (iN (zc))), (3, .int (iN (1)))] [] (78, 76) (zS3 zb zi (-1) zg) (78, 76) zQ := by
  obtain ⟨zd, rfl⟩ : ∃ y_e, zd = y_e + 7 := ⟨zd - 7, by omega⟩
  intro z_n
  induction z_n with
  | zero => intro zb zi zc zg zK zf q_fr q_nm1 q_i q_gk q_z q_m; omega
  | succ z_n z_ih =>
    intro zb zi zc zg zK zf q_fr q_nm1 q_i q_gk q_z q_m
    have q_N := q_gk.1
    have q_ln1 : zb.1 55 9 = iN zl := (congrFun (q_fr.2 55 (by decide)) 9).trans q_ln
    have q_f1 : ∀ k : Int, 0 ≤ k → k < zl → zb.1 59 k.toNat = iN (F k) := by rw [q_fr.2 59 (by decide)]; exact q_f
    have q_t1 : zb.1 55 12 = iN 1 := (congrFun (q_fr.2 55 (by decide)) 12).trans q_t
    refine wp_run (k := 1) (pc1 := 20) (l1 := [(0, .ref 55), (1, .int (iN (1))), (2, .int (iN (zc))), (3, .int (iN (1)))]) (st1 := [.int (iN (1))]) (kr1 := (78, 76)) (h1 := zS3 zb zi (-1) zg) rfl ?_
    refine wp_eq0 (a := 1) rfl (by omega) (fun b_20 => ?_) (fun b_20 => ?_)
    · exact absurd b_20 (by decide)
    · refine wp_run (k := 1) (pc1 := 24) (l1 := [(0, .ref 55), (1, .int (iN (1))), (2, .int (iN (zc))), (3, .int (iN (1)))]) (st1 := [.ref 55]) (kr1 := (78, 76)) (h1 := zS3 zb zi (-1) zg) rfl ?_
      refine wp_call (md1 := am_m_Model_isClause) (As := [.ref 55]) (rest := []) (kr1 := (78, 76)) rfl (jm_clause1 (zi := zi) _ (by omega) q_ln1 q_r q_f1 q_c (by omega) q_nm1 q_gk q_t1) ?_
      rintro _ zg1 ⟨rfl, q_x1, q_y1⟩
      have y_C := zCs_rg (F := F) (L := zl) (N := N) (i := zi) (by omega)
      have y_sg := zSg_rg (i := (zCs F zl N zi).2.2.2.2) q_c
      refine wp_run (k := 3) (pc1 := 32) (l1 := [(0, .ref 55), (1, .int (iN (1))), (2, .int (iN ((zc) + 1))), (3, .int (iN (bI ((zCs F zl N zi).1 = 1) inferInstance)))]) (st1 := [.int (iN (bI ((zCs F zl N zi).1 = 1) inferInstance))]) (kr1 := (78, 76)) (h1 := zg1) (Eq.trans (b := (some (32, [(0, .ref 55), (1, .int (iN (1))), (2, .int ((iN (zc)) + iN (1))), (3, .int (iN (bI ((zCs F zl N zi).1 = 1) inferInstance)))], [.int (iN (bI ((zCs F zl N zi).1 = 1) inferInstance))], (78, 76), zg1) : Option am_C)) rfl (by simp only [Int32.ofInt_add, Int32.ofInt_sub, Int32.ofInt_mul, Int32.ofInt_neg])) ?_
      refine wp_eqb rfl (fun b_32 => ?_) (fun b_32 => ?_)
      · refine wp_run (k := 1) (pc1 := 49) (l1 := [(0, .ref 55), (1, .int (iN (1))), (2, .int (iN ((zc) + 1))), (3, .int (iN (bI ((zCs F zl N zi).1 = 1) inferInstance)))]) (st1 := [.int (iN (bI ((zCs F zl N zi).1 = 1) inferInstance))]) (kr1 := (78, 76)) (h1 := zg1) rfl ?_
        refine wp_eqb rfl (fun b_49 => ?_) (fun b_49 => ?_)
        · refine wp_run (k := 3) (pc1 := 19) (l1 := [(0, .ref 55), (1, .int (iN (1))), (2, .int (iN ((zc) + 1))), (3, .int (iN (0)))]) (st1 := []) (kr1 := (78, 76)) (h1 := zg1) rfl ?_
          refine wp_run (k := 1) (pc1 := 20) (l1 := [(0, .ref 55), (1, .int (iN (1))), (2, .int (iN ((zc) + 1))), (3, .int (iN (0)))]) (st1 := [.int (iN (0))]) (kr1 := (78, 76)) (h1 := zg1) rfl ?_
          refine wp_eq0 (a := 0) rfl (by omega) (fun b_20_4 => ?_) (fun b_20_4 => ?_)
          · refine wp_run (k := 1) (pc1 := 71) (l1 := [(0, .ref 55), (1, .int (iN (1))), (2, .int (iN ((zc) + 1))), (3, .int (iN (0)))]) (st1 := [.int (iN (0))]) (kr1 := (78, 76)) (h1 := zg1) rfl ?_
            refine wp_ret (rv := some (.int (iN (0)))) rfl ?_
            obtain ⟨zf1, y_k⟩ : ∃ y, zf = y + 1 := ⟨zf - 1, by omega⟩
            subst y_k
            have y_U : zU = (-100 - (zCs F zl N zi).2.2.2.2, zK) := q_z.symm.trans (if_neg b_32)
            rw [y_U] at q_U
            dsimp only at q_U
            omega
          · exact absurd b_20_4 (by decide)
        · exact absurd b_49 b_32
      · obtain ⟨zb1, zg5, y_f5, y_n5, y_h5⟩ := q_x1 b_32
        rw [← y_h5]
        have q_fr5 : am_fr [56] zh zb1 := am_fr_t q_fr y_f5
        have q_ln5 : zb1.1 55 9 = iN zl := (congrFun (q_fr5.2 55 (by decide)) 9).trans q_ln
        have q_f5 : ∀ k : Int, 0 ≤ k → k < zl → zb1.1 59 k.toNat = iN (F k) := by rw [q_fr5.2 59 (by decide)]; exact q_f
        refine wp_run (k := 4) (pc1 := 43) (l1 := [(0, .ref 55), (1, .int (iN (1))), (2, .int (iN ((zc) + 1))), (3, .int (iN (bI ((zCs F zl N zi).1 = 1) inferInstance)))]) (st1 := [.int (iN (zl)), .int (iN ((zCs F zl N zi).2.2.2.2))]) (kr1 := (78, 76)) (h1 := zS3 zb1 ((zCs F zl N zi).2.2.2.2) (-1) (zg5)) (Eq.trans (b := (some (43, [(0, .ref 55), (1, .int (iN (1))), (2, .int (iN ((zc) + 1))), (3, .int (iN (bI ((zCs F zl N zi).1 = 1) inferInstance)))], [.int ((zS3 zb1 ((zCs F zl N zi).2.2.2.2) (-1) (zg5)).1 55 9), .int ((zS3 zb1 ((zCs F zl N zi).2.2.2.2) (-1) (zg5)).1 55 8)], (78, 76), zS3 zb1 ((zCs F zl N zi).2.2.2.2) (-1) (zg5)) : Option am_C)) rfl (by simp only [(show (zS3 zb1 ((zCs F zl N zi).2.2.2.2) (-1) (zg5)).1 55 8 = iN ((zCs F zl N zi).2.2.2.2) from (zS3_a _ _ _ _).1), (show (zS3 zb1 ((zCs F zl N zi).2.2.2.2) (-1) (zg5)).1 55 9 = iN zl from (zS3_s _ _ _ _ (by decide) (by decide) (by decide)).trans q_ln5), Int32.ofInt_add, Int32.ofInt_sub, Int32.ofInt_mul, Int32.ofInt_neg])) ?_
        refine wp_ne (a := (zCs F zl N zi).2.2.2.2) (b := zl) rfl (by omega) (by omega) (fun b_43 => ?_) (fun b_43 => ?_)
        · refine wp_run (k := 1) (pc1 := 49) (l1 := [(0, .ref 55), (1, .int (iN (1))), (2, .int (iN ((zc) + 1))), (3, .int (iN (bI ((zCs F zl N zi).1 = 1) inferInstance)))]) (st1 := [.int (iN (bI ((zCs F zl N zi).1 = 1) inferInstance))]) (kr1 := (78, 76)) (h1 := zS3 zb1 ((zCs F zl N zi).2.2.2.2) (-1) (zg5)) rfl ?_
          refine wp_eqb rfl (fun b_49_6 => ?_) (fun b_49_6 => ?_)
          · exact absurd b_32 b_49_6
          · refine wp_run (k := 2) (pc1 := 55) (l1 := [(0, .ref 55), (1, .int (iN (1))), (2, .int (iN ((zc) + 1))), (3, .int (iN (bI ((zCs F zl N zi).1 = 1) inferInstance)))]) (st1 := [.int (iN (59)), .ref 55]) (kr1 := (78, 76)) (h1 := zS3 zb1 ((zCs F zl N zi).2.2.2.2) (-1) (zg5)) rfl ?_
            refine wp_call (md1 := am_m_Model_isSign) (As := [.ref 55, .int (iN (59))]) (rest := []) (kr1 := (78, 76)) rfl (jm_isSign _ (by omega) (F := F) (zl := zl) (zi := (zCs F zl N zi).2.2.2.2) (zc := 59) q_ln5 q_r q_f5 q_c (by omega) (by omega)) ?_
            rintro _ zg2 ⟨rfl, q_x2, q_y2⟩
            refine wp_eqb rfl (fun b_58 => ?_) (fun b_58 => ?_)
            · refine wp_run (k := 3) (pc1 := 19) (l1 := [(0, .ref 55), (1, .int (iN (1))), (2, .int (iN ((zc) + 1))), (3, .int (iN (0)))]) (st1 := []) (kr1 := (78, 76)) (h1 := zg2) rfl ?_
              refine wp_run (k := 1) (pc1 := 20) (l1 := [(0, .ref 55), (1, .int (iN (1))), (2, .int (iN ((zc) + 1))), (3, .int (iN (0)))]) (st1 := [.int (iN (0))]) (kr1 := (78, 76)) (h1 := zg2) rfl ?_
              refine wp_eq0 (a := 0) rfl (by omega) (fun b_20_8 => ?_) (fun b_20_8 => ?_)
              · refine wp_run (k := 1) (pc1 := 71) (l1 := [(0, .ref 55), (1, .int (iN (1))), (2, .int (iN ((zc) + 1))), (3, .int (iN (0)))]) (st1 := [.int (iN (0))]) (kr1 := (78, 76)) (h1 := zg2) rfl ?_
                refine wp_ret (rv := some (.int (iN (0)))) rfl ?_
                obtain ⟨zf1, y_k⟩ : ∃ y, zf = y + 1 := ⟨zf - 1, by omega⟩
                subst y_k
                have y_U : zU = (-100 - (zCs F zl N zi).2.2.2.2, zK) := q_z.symm.trans ((if_pos (by omega)).trans ((if_neg (by omega)).trans (if_neg b_58)))
                rw [y_U] at q_U
                dsimp only at q_U
                omega
              · exact absurd b_20_8 (by decide)
            · refine wp_run (k := 4) (pc1 := 19) (l1 := [(0, .ref 55), (1, .int (iN (1))), (2, .int (iN ((zc) + 1))), (3, .int (iN (1)))]) (st1 := []) (kr1 := (78, 76)) (h1 := zg2) rfl ?_
              rw [← q_x2 b_58]
              obtain ⟨zf1, y_k⟩ : ∃ y, zf = y + 1 := ⟨zf - 1, by omega⟩
              subst y_k
              refine z_ih zb1 ((zCs F zl N zi).2.2.2.2 + 1) (zc + 1) zg5 (zTg zK N (zCs F zl N zi).2.1 (zCs F zl N zi).2.2.1 (zCs F zl N zi).2.2.2.1) zf1 q_fr5 y_n5 (by omega) (zTg_gk q_gk (by omega)) ?_ (by omega)
              rw [← q_z]
              exact ((if_pos (by omega)).trans ((if_neg (by omega)).trans (if_pos (by omega)))).symm
        · refine wp_run (k := 1) (pc1 := 47) (l1 := [(0, .ref 55), (1, .int (iN (1))), (2, .int (iN ((zc) + 1))), (3, .int (iN (bI ((zCs F zl N zi).1 = 1) inferInstance)))]) (st1 := [.int (iN ((zc) + 1))]) (kr1 := (78, 76)) (h1 := zS3 zb1 ((zCs F zl N zi).2.2.2.2) (-1) (zg5)) rfl ?_
          refine wp_ret (rv := some (.int (iN ((zc) + 1)))) rfl ?_
          obtain ⟨zf1, y_k⟩ : ∃ y, zf = y + 1 := ⟨zf - 1, by omega⟩
          subst y_k
          have y_U : zU = (zc + 1, zTg zK N (zCs F zl N zi).2.1 (zCs F zl N zi).2.2.1 (zCs F zl N zi).2.2.2.1) := q_z.symm.trans ((if_pos (by omega)).trans (if_pos (by omega)))
          exact zk zb1 _ _ _ q_fr5 (by rw [y_U]; exact y_n5)
set_option maxRecDepth 20000 in
set_option maxHeartbeats 4000000 in
theorem jm_clauses1 (zd : Nat) (q_d : 7 ≤ zd) {zh : am_H} {F : Int → Int} {zl : Int} {N : Int} {G : Int → Int → Int} {S T : Int} (q_ln : zh.1 55 9 = iN zl) (q_r : 0 ≤ zl ∧ zl ≤ 120) (q_f : ∀ k : Int, 0 ≤ k → k < zl → zh.1 59 k.toNat = iN (F k)) (q_c : ∀ k : Int, 0 ≤ k → k < zl → 32 ≤ F k ∧ F k ≤ 126) (q_nm : zMm (zh.1 55) (zh.1 56) N G S T) (q_g : zGk N G S T) (q_U : 0 ≤ (zTf F zl N 121 0 0 G).1) : am_wp zd am_m_Model_clauses 0 [(0, .ref 55), (1, .int (iN (1)))] [] (78, 76) zh (78, 76) (fun rv h' => ∃ (zb : am_H) (x g zr : Int), rv = some (.int (iN zr)) ∧ am_fr [56] (am_wr zh 55 12 (iN 1)) zb ∧ zMm (zb.1 55) (zb.1 56) N (zTf F zl N 121 0 0 G).2 S T ∧ zS3 zb x (-1) g = h') := by
  obtain ⟨zd, rfl⟩ : ∃ y_e, zd = y_e + 7 := ⟨zd - 7, by omega⟩
  have q_N := q_g.1
  refine wp_run (k := 13) (pc1 := 19) (l1 := [(0, .ref 55), (1, .int (iN (1))), (2, .int (iN (0))), (3, .int (iN (1)))]) (st1 := []) (kr1 := (78, 76)) (h1 := am_wr (am_wr (am_wr zh 55 12 (iN (1))) 55 8 (iN (0))) 55 10 (iN (-1))) rfl ?_
  have y_h : am_wr (am_wr (am_wr zh 55 12 (iN (1))) 55 8 (iN (0))) 55 10 (iN (-1)) = zS3 (am_wr zh 55 12 (iN 1)) 0 (-1) ((am_wr zh 55 12 (iN 1)).1 55 11).toInt := zS3_i _ _ _
  rw [y_h]
  exact jl_clauses1 (zh := am_wr zh 55 12 (iN 1)) _ (by omega) ((am_wr_no (by decide)).trans q_ln) q_r (fun k y1 y2 => (congrFun (am_wr_ne (by decide)) _).trans (q_f k y1 y2)) q_c am_wr_at q_U (fun zb x g zr y1 y2 => ⟨zb, x, g, zr, rfl, y1, y2, rfl⟩) 130 (am_wr zh 55 12 (iN 1)) 0 0 _ G 121 (am_fr_0 _ _) (zMm_g q_nm (am_wr_no (by decide)) (am_wr_ne (by decide))) (by omega) q_g rfl (by omega)
