/-! THE REFERENCE's methods: what is only told -/
/-- only what the reference reckons with was written -/
def zRS (zh zg : am_H) : Prop := am_fr [55, 60, 61, 62, 63, 64, 65, 66, 67, 68, 69, 70, 71, 72, 73] zh zg ∧ (zg.1 55 0 = zh.1 55 0 ∧ zg.1 55 4 = zh.1 55 4 ∧ zg.1 55 5 = zh.1 55 5 ∧ zg.1 55 7 = zh.1 55 7 ∧ zg.1 55 36 = zh.1 55 36)
theorem zRS_0 (zh : am_H) : zRS zh zh := ⟨am_fr_0 _ _, rfl, rfl, rfl, rfl, rfl⟩
theorem zRS_t {zh zg zk : am_H} (q1 : zRS zh zg) (q2 : zRS zg zk) : zRS zh zk := ⟨am_fr_t q1.1 q2.1, q2.2.1.trans q1.2.1, q2.2.2.1.trans q1.2.2.1, q2.2.2.2.1.trans q1.2.2.2.1, q2.2.2.2.2.1.trans q1.2.2.2.2.1, q2.2.2.2.2.2.trans q1.2.2.2.2.2⟩
theorem zRS_f {ks : List Nat} {zh zg : am_H} (q : am_fr ks zh zg) (q1 : ∀ c : Nat, c ∈ ks → c ∈ [55, 60, 61, 62, 63, 64, 65, 66, 67, 68, 69, 70, 71, 72, 73]) (q2 : 55 ∉ ks) : zRS zh zg := ⟨am_fr_m q q1, congrFun (q.2 55 q2) 0, congrFun (q.2 55 q2) 4, congrFun (q.2 55 q2) 5, congrFun (q.2 55 q2) 7, congrFun (q.2 55 q2) 36⟩
theorem zRS_s {ks : List Nat} {zh zg : am_H} {k1 k2 k3 : Nat} (q : am_fr ks zh zg) (q1 : ∀ c : Nat, c ∈ ks → c ∈ [55, 60, 61, 62, 63, 64, 65, 66, 67, 68, 69, 70, 71, 72, 73]) (q2 : ∀ zs : Nat, zs ≠ k1 → zs ≠ k2 → zs ≠ k3 → zg.1 55 zs = zh.1 55 zs) (q3 : ∀ s : Nat, s ∈ [0, 4, 5, 7, 36] → s ≠ k1 ∧ s ≠ k2 ∧ s ≠ k3) : zRS zh zg := by
  have y : ∀ s : Nat, s ∈ [0, 4, 5, 7, 36] → zg.1 55 s = zh.1 55 s := fun s y1 => q2 s (q3 s y1).1 (q3 s y1).2.1 (q3 s y1).2.2
  exact ⟨am_fr_m q q1, y 0 (by decide), y 4 (by decide), y 5 (by decide), y 7 (by decide), y 36 (by decide)⟩
theorem zRS_mm {zh zg : am_H} {N : Int} {G : Int → Int → Int} {S T : Int} (q : zRS zh zg) (q_nm : zMm (zh.1 55) (zh.1 56) N G S T) : zMm (zg.1 55) (zg.1 56) N G S T := zMm_g q_nm q.2.1 (q.1.2 56 (by decide))
set_option maxRecDepth 20000 in
set_option maxHeartbeats 4000000 in
theorem jR_least (zd : Nat) (q_d : 7 ≤ zd) {zh : am_H} {N : Int} {G : Int → Int → Int} {S T : Int} (q_nm : zMm (zh.1 55) (zh.1 56) N G S T) (q_g : zGk N G S T) : am_wp zd am_m_Model_least 0 [(0, .ref 55)] [] (78, 76) zh (78, 76) (fun rv h' => rv = some (.int (iN ((zPv G T N 0).1))) ∧ zRS zh h') := by
  obtain ⟨zd, rfl⟩ : ∃ y_e, zd = y_e + 7 := ⟨zd - 7, by omega⟩
  have q_N := q_g.1
  refine wp_run (k := 1) (pc1 := 1) (l1 := [(0, .ref 55)]) (st1 := [.ref 55]) (kr1 := (78, 76)) (h1 := zh) rfl ?_
  refine wp_call (md1 := am_m_Model_thePlan) (As := [.ref 55]) (rest := []) (kr1 := (78, 76)) rfl (jm_thePlan _ (by omega) q_nm q_g) ?_
  rintro _ zg1 ⟨rfl, q_f1, q_s1, q_tm1⟩
  have q_R1 : zRS zh zg1 := zRS_s q_f1 (fun c y => by simp only [List.mem_cons, List.not_mem_nil, or_false] at y ⊢; omega) (fun zs y1 _ _ => q_s1 zs y1) (k1 := 20) (k2 := 20) (k3 := 20) (by decide)
  have q_nm1 := zRS_mm q_R1 q_nm
  have q_tk := zTookM_k q_tm1
  have y_K := zIsN_le q_g q_tk.1
  have y_mhk := zMB_hk (T := T) q_g
  refine wp_ret (rv := some (.int (iN ((zPv G T N 0).1)))) rfl ?_
  exact ⟨rfl, q_R1⟩
set_option maxRecDepth 20000 in
set_option maxHeartbeats 4000000 in
theorem jR_calm (zd : Nat) (q_d : 3 ≤ zd) {zh : am_H} {N : Int} {G : Int → Int → Int} {S T : Int} (q_nm : zMm (zh.1 55) (zh.1 56) N G S T) (q_g : zGk N G S T) : am_wp zd am_m_Model_calm 0 [(0, .ref 55)] [] (78, 76) zh (78, 76) (fun rv h' => rv = some (.int (iN (bI (zCalm N G T) (Classical.propDecidable _)))) ∧ zRS zh h') := by
  obtain ⟨zd, rfl⟩ : ∃ y_e, zd = y_e + 3 := ⟨zd - 3, by omega⟩
  have q_N := q_g.1
  refine wp_run (k := 1) (pc1 := 1) (l1 := [(0, .ref 55)]) (st1 := [.ref 55]) (kr1 := (78, 76)) (h1 := zh) rfl ?_
  refine wp_call (md1 := am_m_Model_isCalm) (As := [.ref 55]) (rest := []) (kr1 := (78, 76)) rfl (jm_isCalm _ (by omega) q_nm q_g) ?_
  rintro _ _ ⟨rfl, rfl⟩
  refine wp_eqb rfl (fun b_4 => ?_) (fun b_4 => ?_)
  · refine wp_run (k := 1) (pc1 := 12) (l1 := [(0, .ref 55)]) (st1 := [.int (iN (0))]) (kr1 := (78, 76)) (h1 := zh) rfl ?_
    refine wp_ret (rv := some (.int (iN (0)))) rfl ?_
    exact ⟨by rw [show bI (zCalm N G T) (Classical.propDecidable _) = 0 from if_neg (by assumption)], zRS_0 _⟩
  · refine wp_run (k := 2) (pc1 := 12) (l1 := [(0, .ref 55)]) (st1 := [.int (iN (1))]) (kr1 := (78, 76)) (h1 := zh) rfl ?_
    refine wp_ret (rv := some (.int (iN (1)))) rfl ?_
    exact ⟨by rw [show bI (zCalm N G T) (Classical.propDecidable _) = 1 from if_pos (by assumption)], zRS_0 _⟩
set_option maxRecDepth 20000 in
set_option maxHeartbeats 4000000 in
theorem jR_of (zd : Nat) (q_d : 3 ≤ zd) {zh : am_H} {N : Int} {G : Int → Int → Int} {S T : Int} {zp : Int} {zw : Int} (q_nm : zMm (zh.1 55) (zh.1 56) N G S T) (q_g : zGk N G S T) (q_zpr : -2147483648 ≤ zp ∧ zp < 2147483648) (q_zwr : -2147483648 ≤ zw ∧ zw < 2147483648) : am_wp zd am_m_Model_of 0 [(0, .ref 55), (1, .int (iN (zp))), (2, .int (iN (zw)))] [] (78, 76) zh (78, 76) (fun rv h' => rv = some (.int (iN (zVof N G zp zw))) ∧ zRS zh h') := by
  obtain ⟨zd, rfl⟩ : ∃ y_e, zd = y_e + 3 := ⟨zd - 3, by omega⟩
  have q_N := q_g.1
  refine wp_run (k := 2) (pc1 := 2) (l1 := [(0, .ref 55), (1, .int (iN (zp))), (2, .int (iN (zw)))]) (st1 := [.int (iN (zp)), .ref 55]) (kr1 := (78, 76)) (h1 := zh) rfl ?_
  refine wp_call (md1 := am_m_Model_isPeriod) (As := [.ref 55, .int (iN (zp))]) (rest := []) (kr1 := (78, 76)) rfl (jm_isPeriod _ (by omega) q_nm q_g (zp := zp) (by omega)) ?_
  rintro _ _ ⟨rfl, rfl⟩
  refine wp_eqb rfl (fun b_5 => ?_) (fun b_5 => ?_)
  · refine wp_run (k := 1) (pc1 := 25) (l1 := [(0, .ref 55), (1, .int (iN (zp))), (2, .int (iN (zw)))]) (st1 := [.int (iN (-1))]) (kr1 := (78, 76)) (h1 := zh) rfl ?_
    refine wp_ret (rv := some (.int (iN (-1)))) rfl ?_
    refine ⟨?_, zRS_0 _⟩
    rw [show zVof N G zp zw = -1 from ?_]
    unfold zVof
    (repeat' split) <;> first | rfl | omega | contradiction | (exfalso; omega) | (exfalso; rename_i y_x; exact absurd y_x.2.1 (by assumption)) | (exfalso; rename_i y_x; exact y_x ⟨by omega, by assumption, by omega⟩)
  · refine wp_run (k := 1) (pc1 := 9) (l1 := [(0, .ref 55), (1, .int (iN (zp))), (2, .int (iN (zw)))]) (st1 := [.int (iN (zw))]) (kr1 := (78, 76)) (h1 := zh) rfl ?_
    refine wp_call (md1 := am_m_Model_isWhich) (As := [.int (iN (zw))]) (rest := []) (kr1 := (78, 76)) rfl (jm_isWhich _ (by omega) (zw := zw) (by omega)) ?_
    rintro _ _ ⟨rfl, rfl⟩
    refine wp_eqb rfl (fun b_12 => ?_) (fun b_12 => ?_)
    · refine wp_run (k := 1) (pc1 := 25) (l1 := [(0, .ref 55), (1, .int (iN (zp))), (2, .int (iN (zw)))]) (st1 := [.int (iN (-1))]) (kr1 := (78, 76)) (h1 := zh) rfl ?_
      refine wp_ret (rv := some (.int (iN (-1)))) rfl ?_
      refine ⟨?_, zRS_0 _⟩
      rw [show zVof N G zp zw = -1 from ?_]
      unfold zVof
      (repeat' split) <;> first | rfl | omega | contradiction | (exfalso; omega) | (exfalso; rename_i y_x; exact absurd y_x.2.1 (by assumption)) | (exfalso; rename_i y_x; exact y_x ⟨by omega, by assumption, by omega⟩)
    · refine wp_run (k := 3) (pc1 := 18) (l1 := [(0, .ref 55), (1, .int (iN (zp))), (2, .int (iN (zw)))]) (st1 := [.int (iN (zp)), .int (iN (zw)), .ref 55]) (kr1 := (78, 76)) (h1 := zh) rfl ?_
      refine wp_call (md1 := am_m_Model_num) (As := [.ref 55, .int (iN (zw)), .int (iN (zp))]) (rest := []) (kr1 := (78, 76)) rfl (jm_num _ (by omega) q_nm q_g (zw := zw) (zp := zp) (by omega) (by omega)) ?_
      rintro _ _ ⟨rfl, rfl⟩
      refine wp_run (k := 1) (pc1 := 25) (l1 := [(0, .ref 55), (1, .int (iN (zp))), (2, .int (iN (zw)))]) (st1 := [.int (iN (G (zw) (zp)))]) (kr1 := (78, 76)) (h1 := zh) rfl ?_
      refine wp_ret (rv := some (.int (iN (G (zw) (zp))))) rfl ?_
      refine ⟨?_, zRS_0 _⟩
      rw [show zVof N G zp zw = G (zw) (zp) from ?_]
      unfold zVof
      (repeat' split) <;> first | rfl | omega | contradiction | (exfalso; omega) | (exfalso; rename_i y_x; exact absurd y_x.2.1 (by assumption)) | (exfalso; rename_i y_x; exact y_x ⟨by omega, by assumption, by omega⟩)
set_option maxRecDepth 20000 in
set_option maxHeartbeats 4000000 in
theorem jR_lot (zd : Nat) (q_d : 8 ≤ zd) {zh : am_H} {N : Int} {G : Int → Int → Int} {S T : Int} {zi : Int} {zw : Int} (q_nm : zMm (zh.1 55) (zh.1 56) N G S T) (q_g : zGk N G S T) (q_zir : -2147483648 ≤ zi ∧ zi < 2147483648) (q_zwr : -2147483648 ≤ zw ∧ zw < 2147483648) : am_wp zd am_m_Model_lot 0 [(0, .ref 55), (1, .int (iN (zi))), (2, .int (iN (zw)))] [] (78, 76) zh (78, 76) (fun rv h' => rv = some (.int (iN (zVlot N G T zi zw))) ∧ zRS zh h') := by
  obtain ⟨zd, rfl⟩ : ∃ y_e, zd = y_e + 8 := ⟨zd - 8, by omega⟩
  have q_N := q_g.1
  refine wp_run (k := 2) (pc1 := 2) (l1 := [(0, .ref 55), (1, .int (iN (zi))), (2, .int (iN (zw)))]) (st1 := [.int (iN (-1)), .int (iN (zi))]) (kr1 := (78, 76)) (h1 := zh) rfl ?_
  refine wp_lt (a := zi) (b := -1) rfl (by omega) (by omega) (fun b_2 => ?_) (fun b_2 => ?_)
  · refine wp_run (k := 1) (pc1 := 22) (l1 := [(0, .ref 55), (1, .int (iN (zi))), (2, .int (iN (zw)))]) (st1 := [.int (iN (-1))]) (kr1 := (78, 76)) (h1 := zh) rfl ?_
    refine wp_ret (rv := some (.int (iN (-1)))) rfl ?_
    refine ⟨?_, zRS_0 _⟩
    rw [show zVlot N G T zi zw = -1 from ?_]
    unfold zVlot
    (repeat' split) <;> first | rfl | omega | contradiction | (exfalso; omega) | (exfalso; rename_i y_x; exact absurd y_x.2.1 (by assumption)) | (exfalso; rename_i y_x; exact y_x ⟨by omega, by assumption, by omega⟩)
  · refine wp_run (k := 1) (pc1 := 6) (l1 := [(0, .ref 55), (1, .int (iN (zi))), (2, .int (iN (zw)))]) (st1 := [.int (iN (zi))]) (kr1 := (78, 76)) (h1 := zh) rfl ?_
    refine wp_lt0 (a := zi) rfl (by omega) (fun b_6 => ?_) (fun b_6 => ?_)
    · refine wp_run (k := 1) (pc1 := 24) (l1 := [(0, .ref 55), (1, .int (iN (zi))), (2, .int (iN (zw)))]) (st1 := [.ref 55]) (kr1 := (78, 76)) (h1 := zh) rfl ?_
      refine wp_call (md1 := am_m_Model_thePlan) (As := [.ref 55]) (rest := []) (kr1 := (78, 76)) rfl (jm_thePlan _ (by omega) q_nm q_g) ?_
      rintro _ zg1 ⟨rfl, q_f1, q_s1, q_tm1⟩
      have q_R1 : zRS zh zg1 := zRS_s q_f1 (fun c y => by simp only [List.mem_cons, List.not_mem_nil, or_false] at y ⊢; omega) (fun zs y1 _ _ => q_s1 zs y1) (k1 := 20) (k2 := 20) (k3 := 20) (by decide)
      have q_nm1 := zRS_mm q_R1 q_nm
      have q_tk := zTookM_k q_tm1
      have y_K := zIsN_le q_g q_tk.1
      have y_mhk := zMB_hk (T := T) q_g
      refine wp_run (k := 2) (pc1 := 29) (l1 := [(0, .ref 55), (1, .int (iN (zi))), (2, .int (iN (zw)))]) (st1 := [.int (iN (zi))]) (kr1 := (78, 76)) (h1 := zg1) rfl ?_
      refine wp_ge0 (a := zi) rfl (by omega) (fun b_29 => ?_) (fun b_29 => ?_)
      · refine wp_run (k := 3) (pc1 := 42) (l1 := [(0, .ref 55), (1, .int (iN (zi))), (2, .int (iN (zw)))]) (st1 := [.int (iN ((zKn G T N : Int))), .int (iN (zi))]) (kr1 := (78, 76)) (h1 := zg1) (Eq.trans (b := (some (42, [(0, .ref 55), (1, .int (iN (zi))), (2, .int (iN (zw)))], [.int (zg1.1 55 20), .int (iN (zi))], (78, 76), zg1) : Option am_C)) rfl (by simp only [q_tk.2.1, Int32.ofInt_add, Int32.ofInt_sub, Int32.ofInt_mul, Int32.ofInt_neg])) ?_
        refine wp_lt (a := zi) (b := (zKn G T N : Int)) rfl (by omega) (by omega) (fun b_42 => ?_) (fun b_42 => ?_)
        · obtain ⟨zj, y_j⟩ : ∃ zj : Nat, zi = (zj : Int) := ⟨zi.toNat, by omega⟩
          subst y_j
          have y_b := zLb_rg q_g (fun j y => q_tk.1.1 j (by omega)) (q_tk.1.1 zj (by omega))
          refine wp_run (k := 1) (pc1 := 49) (l1 := [(0, .ref 55), (1, .int (iN ((zj : Int)))), (2, .int (iN (zw)))]) (st1 := [.int (iN (zw))]) (kr1 := (78, 76)) (h1 := zg1) rfl ?_
          rcases (show zw = 0 ∨ zw = 1 ∨ zw = 2 ∨ zw = 3 ∨ (zw < 0 ∨ 3 < zw) by omega) with y_sw | y_sw | y_sw | y_sw | y_sw
          · refine wp_swc (b := 0) (tg := 80) y_sw rfl (by decide) ?_
            refine wp_run (k := 3) (pc1 := 85) (l1 := [(0, .ref 55), (1, .int (iN ((zj : Int)))), (2, .int (iN (zw)))]) (st1 := [.int (iN ((zj : Int))), .ref 63]) (kr1 := (78, 76)) (h1 := zg1) rfl ?_
            refine wp_iald (f := zg1.1 63) (z := (zj : Int)) (j := zj) (n := 16) (v := iN (zLa G T N zj)) rfl rfl rfl (by omega) (by decide) ((q_tk.2.2.1 zj (by omega)).1) ?_
            refine wp_ret (rv := some (.int (iN (zLa G T N zj)))) rfl ?_
            refine ⟨?_, q_R1⟩
            unfold zVlot
            rw [if_neg (by omega), if_neg (by omega), if_neg (by omega), if_pos (by omega), show ((zj : Int)).toNat = zj by omega]
            unfold zOf
            rw [if_pos (by omega)]
          · refine wp_swc (b := 1) (tg := 87) y_sw rfl (by decide) ?_
            refine wp_run (k := 3) (pc1 := 92) (l1 := [(0, .ref 55), (1, .int (iN ((zj : Int)))), (2, .int (iN (zw)))]) (st1 := [.int (iN ((zj : Int))), .ref 64]) (kr1 := (78, 76)) (h1 := zg1) rfl ?_
            refine wp_iald (f := zg1.1 64) (z := (zj : Int)) (j := zj) (n := 16) (v := iN (zLb G T N zj)) rfl rfl rfl (by omega) (by decide) ((q_tk.2.2.1 zj (by omega)).2.1) ?_
            refine wp_ret (rv := some (.int (iN (zLb G T N zj)))) rfl ?_
            refine ⟨?_, q_R1⟩
            unfold zVlot
            rw [if_neg (by omega), if_neg (by omega), if_neg (by omega), if_pos (by omega), show ((zj : Int)).toNat = zj by omega]
            unfold zOf
            rw [if_neg (by omega), if_pos (by omega)]
          · refine wp_swc (b := 2) (tg := 94) y_sw rfl (by decide) ?_
            refine wp_run (k := 3) (pc1 := 99) (l1 := [(0, .ref 55), (1, .int (iN ((zj : Int)))), (2, .int (iN (zw)))]) (st1 := [.int (iN ((zj : Int))), .ref 65]) (kr1 := (78, 76)) (h1 := zg1) rfl ?_
            refine wp_iald (f := zg1.1 65) (z := (zj : Int)) (j := zj) (n := 16) (v := iN (zMk G T N zj)) rfl rfl rfl (by omega) (by decide) ((q_tk.2.2.1 zj (by omega)).2.2) ?_
            refine wp_ret (rv := some (.int (iN (zMk G T N zj)))) rfl ?_
            refine ⟨?_, q_R1⟩
            unfold zVlot
            rw [if_neg (by omega), if_neg (by omega), if_neg (by omega), if_pos (by omega), show ((zj : Int)).toNat = zj by omega]
            unfold zOf
            rw [if_neg (by omega), if_neg (by omega), if_pos (by omega)]
          · refine wp_swc (b := 3) (tg := 101) y_sw rfl (by decide) ?_
            refine wp_run (k := 4) (pc1 := 107) (l1 := [(0, .ref 55), (1, .int (iN ((zj : Int)))), (2, .int (iN (zw)))]) (st1 := [.int (iN ((zj : Int))), .ref 63, .ref 55]) (kr1 := (78, 76)) (h1 := zg1) rfl ?_
            refine wp_iald (f := zg1.1 63) (z := (zj : Int)) (j := zj) (n := 16) (v := iN (zLa G T N zj)) rfl rfl rfl (by omega) (by decide) ((q_tk.2.2.1 zj (by omega)).1) ?_
            refine wp_run (k := 3) (pc1 := 113) (l1 := [(0, .ref 55), (1, .int (iN ((zj : Int)))), (2, .int (iN (zw)))]) (st1 := [.int (iN ((zj : Int))), .ref 64, .int (iN (zLa G T N zj)), .ref 55]) (kr1 := (78, 76)) (h1 := zg1) rfl ?_
            refine wp_iald (f := zg1.1 64) (z := (zj : Int)) (j := zj) (n := 16) (v := iN (zLb G T N zj)) rfl rfl rfl (by omega) (by decide) ((q_tk.2.2.1 zj (by omega)).2.1) ?_
            refine wp_call (md1 := am_m_Model_demand) (As := [.ref 55, .int (iN (zLa G T N zj)), .int (iN (zLb G T N zj))]) (rest := []) (kr1 := (78, 76)) rfl (jm_demand _ (by omega) q_nm1 q_g (za := zLa G T N zj) (zb := zLb G T N zj) (by omega)) ?_
            rintro _ _ ⟨rfl, rfl⟩
            refine wp_ret (rv := some (.int (iN (zD G (zLa G T N zj) (zLb G T N zj))))) rfl ?_
            refine ⟨?_, q_R1⟩
            unfold zVlot
            rw [if_neg (by omega), if_neg (by omega), if_neg (by omega), if_pos (by omega), show ((zj : Int)).toNat = zj by omega]
            unfold zOf
            rw [if_neg (by omega), if_neg (by omega), if_neg (by omega), if_pos (by omega)]
          · refine wp_swd (lo := 0) (hi := 3) (tg := 118) rfl (by omega) y_sw ?_
            refine wp_run (k := 4) (pc1 := 124) (l1 := [(0, .ref 55), (1, .int (iN ((zj : Int)))), (2, .int (iN (zw)))]) (st1 := [.int (iN ((zj : Int))), .ref 63, .ref 55]) (kr1 := (78, 76)) (h1 := zg1) rfl ?_
            refine wp_iald (f := zg1.1 63) (z := (zj : Int)) (j := zj) (n := 16) (v := iN (zLa G T N zj)) rfl rfl rfl (by omega) (by decide) ((q_tk.2.2.1 zj (by omega)).1) ?_
            refine wp_run (k := 3) (pc1 := 130) (l1 := [(0, .ref 55), (1, .int (iN ((zj : Int)))), (2, .int (iN (zw)))]) (st1 := [.int (iN ((zj : Int))), .ref 64, .int (iN (zLa G T N zj)), .ref 55]) (kr1 := (78, 76)) (h1 := zg1) rfl ?_
            refine wp_iald (f := zg1.1 64) (z := (zj : Int)) (j := zj) (n := 16) (v := iN (zLb G T N zj)) rfl rfl rfl (by omega) (by decide) ((q_tk.2.2.1 zj (by omega)).2.1) ?_
            refine wp_run (k := 3) (pc1 := 136) (l1 := [(0, .ref 55), (1, .int (iN ((zj : Int)))), (2, .int (iN (zw)))]) (st1 := [.int (iN ((zj : Int))), .ref 65, .int (iN (zLb G T N zj)), .int (iN (zLa G T N zj)), .ref 55]) (kr1 := (78, 76)) (h1 := zg1) rfl ?_
            refine wp_iald (f := zg1.1 65) (z := (zj : Int)) (j := zj) (n := 16) (v := iN (zMk G T N zj)) rfl rfl rfl (by omega) (by decide) ((q_tk.2.2.1 zj (by omega)).2.2) ?_
            refine wp_call (md1 := am_m_Model_cost) (As := [.ref 55, .int (iN (zLa G T N zj)), .int (iN (zLb G T N zj)), .int (iN (zMk G T N zj))]) (rest := []) (kr1 := (78, 76)) rfl (jm_cost _ (by omega) q_nm1 q_g (za := zLa G T N zj) (zb := zLb G T N zj) (zm := zMk G T N zj) (by omega)) ?_
            rintro _ _ ⟨rfl, rfl⟩
            refine wp_ret (rv := some (.int (iN (zCo G (zLa G T N zj) (zLb G T N zj) (zMk G T N zj))))) rfl ?_
            refine ⟨?_, q_R1⟩
            unfold zVlot
            rw [if_neg (by omega), if_neg (by omega), if_neg (by omega), if_pos (by omega), show ((zj : Int)).toNat = zj by omega]
            unfold zOf
            rw [if_neg (by omega), if_neg (by omega), if_neg (by omega), if_neg (by omega)]
        · refine wp_run (k := 1) (pc1 := 47) (l1 := [(0, .ref 55), (1, .int (iN (zi))), (2, .int (iN (zw)))]) (st1 := [.int (iN (-2))]) (kr1 := (78, 76)) (h1 := zg1) rfl ?_
          refine wp_ret (rv := some (.int (iN (-2)))) rfl ?_
          refine ⟨?_, q_R1⟩
          rw [show zVlot N G T zi zw = -2 from ?_]
          unfold zVlot
          (repeat' split) <;> first | rfl | omega | contradiction | (exfalso; omega) | (exfalso; rename_i y_x; exact absurd y_x.2.1 (by assumption)) | (exfalso; rename_i y_x; exact y_x ⟨by omega, by assumption, by omega⟩)
      · refine wp_run (k := 2) (pc1 := 36) (l1 := [(0, .ref 55), (1, .int (iN (zi))), (2, .int (iN (zw)))]) (st1 := [.int (iN ((zKn G T N : Int)))]) (kr1 := (78, 76)) (h1 := zg1) (Eq.trans (b := (some (36, [(0, .ref 55), (1, .int (iN (zi))), (2, .int (iN (zw)))], [.int (zg1.1 55 20)], (78, 76), zg1) : Option am_C)) rfl (by simp only [q_tk.2.1, Int32.ofInt_add, Int32.ofInt_sub, Int32.ofInt_mul, Int32.ofInt_neg])) ?_
        refine wp_ret (rv := some (.int (iN ((zKn G T N : Int))))) rfl ?_
        refine ⟨?_, q_R1⟩
        rw [show zVlot N G T zi zw = (zKn G T N : Int) from ?_]
        unfold zVlot
        (repeat' split) <;> first | rfl | omega | contradiction | (exfalso; omega) | (exfalso; rename_i y_x; exact absurd y_x.2.1 (by assumption)) | (exfalso; rename_i y_x; exact y_x ⟨by omega, by assumption, by omega⟩)
    · refine wp_run (k := 4) (pc1 := 15) (l1 := [(0, .ref 55), (1, .int (iN (zi))), (2, .int (iN (zw)))]) (st1 := [.long ((4 : Int64)), .long (Int64.ofNat 0), .long ((iN (zw)).toInt64)]) (kr1 := (78, 76)) (h1 := zh) rfl ?_
      refine wp_call (md1 := am_m_Model_isIn) (As := [.long ((iN (zw)).toInt64), .long (Int64.ofNat 0), .long ((4 : Int64))]) (rest := []) (kr1 := (78, 76)) rfl (jt_isIn _ (by omega) (i2l_i (z := zw) (by omega)) (show (Int64.ofNat 0 : Int64).toInt = 0 by decide) (show ((4 : Int64) : Int64).toInt = 4 by decide)) ?_
      rintro _ _ ⟨rfl, rfl⟩
      refine wp_neb rfl (fun b_18 => ?_) (fun b_18 => ?_)
      · refine wp_run (k := 1) (pc1 := 24) (l1 := [(0, .ref 55), (1, .int (iN (zi))), (2, .int (iN (zw)))]) (st1 := [.ref 55]) (kr1 := (78, 76)) (h1 := zh) rfl ?_
        refine wp_call (md1 := am_m_Model_thePlan) (As := [.ref 55]) (rest := []) (kr1 := (78, 76)) rfl (jm_thePlan _ (by omega) q_nm q_g) ?_
        rintro _ zg1 ⟨rfl, q_f1, q_s1, q_tm1⟩
        have q_R1 : zRS zh zg1 := zRS_s q_f1 (fun c y => by simp only [List.mem_cons, List.not_mem_nil, or_false] at y ⊢; omega) (fun zs y1 _ _ => q_s1 zs y1) (k1 := 20) (k2 := 20) (k3 := 20) (by decide)
        have q_nm1 := zRS_mm q_R1 q_nm
        have q_tk := zTookM_k q_tm1
        have y_K := zIsN_le q_g q_tk.1
        have y_mhk := zMB_hk (T := T) q_g
        refine wp_run (k := 2) (pc1 := 29) (l1 := [(0, .ref 55), (1, .int (iN (zi))), (2, .int (iN (zw)))]) (st1 := [.int (iN (zi))]) (kr1 := (78, 76)) (h1 := zg1) rfl ?_
        refine wp_ge0 (a := zi) rfl (by omega) (fun b_29 => ?_) (fun b_29 => ?_)
        · refine wp_run (k := 3) (pc1 := 42) (l1 := [(0, .ref 55), (1, .int (iN (zi))), (2, .int (iN (zw)))]) (st1 := [.int (iN ((zKn G T N : Int))), .int (iN (zi))]) (kr1 := (78, 76)) (h1 := zg1) (Eq.trans (b := (some (42, [(0, .ref 55), (1, .int (iN (zi))), (2, .int (iN (zw)))], [.int (zg1.1 55 20), .int (iN (zi))], (78, 76), zg1) : Option am_C)) rfl (by simp only [q_tk.2.1, Int32.ofInt_add, Int32.ofInt_sub, Int32.ofInt_mul, Int32.ofInt_neg])) ?_
          refine wp_lt (a := zi) (b := (zKn G T N : Int)) rfl (by omega) (by omega) (fun b_42 => ?_) (fun b_42 => ?_)
          · obtain ⟨zj, y_j⟩ : ∃ zj : Nat, zi = (zj : Int) := ⟨zi.toNat, by omega⟩
            subst y_j
            have y_b := zLb_rg q_g (fun j y => q_tk.1.1 j (by omega)) (q_tk.1.1 zj (by omega))
            refine wp_run (k := 1) (pc1 := 49) (l1 := [(0, .ref 55), (1, .int (iN ((zj : Int)))), (2, .int (iN (zw)))]) (st1 := [.int (iN (zw))]) (kr1 := (78, 76)) (h1 := zg1) rfl ?_
            rcases (show zw = 0 ∨ zw = 1 ∨ zw = 2 ∨ zw = 3 ∨ (zw < 0 ∨ 3 < zw) by omega) with y_sw | y_sw | y_sw | y_sw | y_sw
            · refine wp_swc (b := 0) (tg := 80) y_sw rfl (by decide) ?_
              refine wp_run (k := 3) (pc1 := 85) (l1 := [(0, .ref 55), (1, .int (iN ((zj : Int)))), (2, .int (iN (zw)))]) (st1 := [.int (iN ((zj : Int))), .ref 63]) (kr1 := (78, 76)) (h1 := zg1) rfl ?_
              refine wp_iald (f := zg1.1 63) (z := (zj : Int)) (j := zj) (n := 16) (v := iN (zLa G T N zj)) rfl rfl rfl (by omega) (by decide) ((q_tk.2.2.1 zj (by omega)).1) ?_
              refine wp_ret (rv := some (.int (iN (zLa G T N zj)))) rfl ?_
              refine ⟨?_, q_R1⟩
              unfold zVlot
              rw [if_neg (by omega), if_neg (by omega), if_neg (by omega), if_pos (by omega), show ((zj : Int)).toNat = zj by omega]
              unfold zOf
              rw [if_pos (by omega)]
            · refine wp_swc (b := 1) (tg := 87) y_sw rfl (by decide) ?_
              refine wp_run (k := 3) (pc1 := 92) (l1 := [(0, .ref 55), (1, .int (iN ((zj : Int)))), (2, .int (iN (zw)))]) (st1 := [.int (iN ((zj : Int))), .ref 64]) (kr1 := (78, 76)) (h1 := zg1) rfl ?_
              refine wp_iald (f := zg1.1 64) (z := (zj : Int)) (j := zj) (n := 16) (v := iN (zLb G T N zj)) rfl rfl rfl (by omega) (by decide) ((q_tk.2.2.1 zj (by omega)).2.1) ?_
              refine wp_ret (rv := some (.int (iN (zLb G T N zj)))) rfl ?_
              refine ⟨?_, q_R1⟩
              unfold zVlot
              rw [if_neg (by omega), if_neg (by omega), if_neg (by omega), if_pos (by omega), show ((zj : Int)).toNat = zj by omega]
              unfold zOf
              rw [if_neg (by omega), if_pos (by omega)]
            · refine wp_swc (b := 2) (tg := 94) y_sw rfl (by decide) ?_
              refine wp_run (k := 3) (pc1 := 99) (l1 := [(0, .ref 55), (1, .int (iN ((zj : Int)))), (2, .int (iN (zw)))]) (st1 := [.int (iN ((zj : Int))), .ref 65]) (kr1 := (78, 76)) (h1 := zg1) rfl ?_
              refine wp_iald (f := zg1.1 65) (z := (zj : Int)) (j := zj) (n := 16) (v := iN (zMk G T N zj)) rfl rfl rfl (by omega) (by decide) ((q_tk.2.2.1 zj (by omega)).2.2) ?_
              refine wp_ret (rv := some (.int (iN (zMk G T N zj)))) rfl ?_
              refine ⟨?_, q_R1⟩
              unfold zVlot
              rw [if_neg (by omega), if_neg (by omega), if_neg (by omega), if_pos (by omega), show ((zj : Int)).toNat = zj by omega]
              unfold zOf
              rw [if_neg (by omega), if_neg (by omega), if_pos (by omega)]
            · refine wp_swc (b := 3) (tg := 101) y_sw rfl (by decide) ?_
              refine wp_run (k := 4) (pc1 := 107) (l1 := [(0, .ref 55), (1, .int (iN ((zj : Int)))), (2, .int (iN (zw)))]) (st1 := [.int (iN ((zj : Int))), .ref 63, .ref 55]) (kr1 := (78, 76)) (h1 := zg1) rfl ?_
              refine wp_iald (f := zg1.1 63) (z := (zj : Int)) (j := zj) (n := 16) (v := iN (zLa G T N zj)) rfl rfl rfl (by omega) (by decide) ((q_tk.2.2.1 zj (by omega)).1) ?_
              refine wp_run (k := 3) (pc1 := 113) (l1 := [(0, .ref 55), (1, .int (iN ((zj : Int)))), (2, .int (iN (zw)))]) (st1 := [.int (iN ((zj : Int))), .ref 64, .int (iN (zLa G T N zj)), .ref 55]) (kr1 := (78, 76)) (h1 := zg1) rfl ?_
              refine wp_iald (f := zg1.1 64) (z := (zj : Int)) (j := zj) (n := 16) (v := iN (zLb G T N zj)) rfl rfl rfl (by omega) (by decide) ((q_tk.2.2.1 zj (by omega)).2.1) ?_
              refine wp_call (md1 := am_m_Model_demand) (As := [.ref 55, .int (iN (zLa G T N zj)), .int (iN (zLb G T N zj))]) (rest := []) (kr1 := (78, 76)) rfl (jm_demand _ (by omega) q_nm1 q_g (za := zLa G T N zj) (zb := zLb G T N zj) (by omega)) ?_
              rintro _ _ ⟨rfl, rfl⟩
              refine wp_ret (rv := some (.int (iN (zD G (zLa G T N zj) (zLb G T N zj))))) rfl ?_
              refine ⟨?_, q_R1⟩
              unfold zVlot
              rw [if_neg (by omega), if_neg (by omega), if_neg (by omega), if_pos (by omega), show ((zj : Int)).toNat = zj by omega]
              unfold zOf
              rw [if_neg (by omega), if_neg (by omega), if_neg (by omega), if_pos (by omega)]
            · refine wp_swd (lo := 0) (hi := 3) (tg := 118) rfl (by omega) y_sw ?_
              refine wp_run (k := 4) (pc1 := 124) (l1 := [(0, .ref 55), (1, .int (iN ((zj : Int)))), (2, .int (iN (zw)))]) (st1 := [.int (iN ((zj : Int))), .ref 63, .ref 55]) (kr1 := (78, 76)) (h1 := zg1) rfl ?_
              refine wp_iald (f := zg1.1 63) (z := (zj : Int)) (j := zj) (n := 16) (v := iN (zLa G T N zj)) rfl rfl rfl (by omega) (by decide) ((q_tk.2.2.1 zj (by omega)).1) ?_
              refine wp_run (k := 3) (pc1 := 130) (l1 := [(0, .ref 55), (1, .int (iN ((zj : Int)))), (2, .int (iN (zw)))]) (st1 := [.int (iN ((zj : Int))), .ref 64, .int (iN (zLa G T N zj)), .ref 55]) (kr1 := (78, 76)) (h1 := zg1) rfl ?_
              refine wp_iald (f := zg1.1 64) (z := (zj : Int)) (j := zj) (n := 16) (v := iN (zLb G T N zj)) rfl rfl rfl (by omega) (by decide) ((q_tk.2.2.1 zj (by omega)).2.1) ?_
              refine wp_run (k := 3) (pc1 := 136) (l1 := [(0, .ref 55), (1, .int (iN ((zj : Int)))), (2, .int (iN (zw)))]) (st1 := [.int (iN ((zj : Int))), .ref 65, .int (iN (zLb G T N zj)), .int (iN (zLa G T N zj)), .ref 55]) (kr1 := (78, 76)) (h1 := zg1) rfl ?_
              refine wp_iald (f := zg1.1 65) (z := (zj : Int)) (j := zj) (n := 16) (v := iN (zMk G T N zj)) rfl rfl rfl (by omega) (by decide) ((q_tk.2.2.1 zj (by omega)).2.2) ?_
              refine wp_call (md1 := am_m_Model_cost) (As := [.ref 55, .int (iN (zLa G T N zj)), .int (iN (zLb G T N zj)), .int (iN (zMk G T N zj))]) (rest := []) (kr1 := (78, 76)) rfl (jm_cost _ (by omega) q_nm1 q_g (za := zLa G T N zj) (zb := zLb G T N zj) (zm := zMk G T N zj) (by omega)) ?_
              rintro _ _ ⟨rfl, rfl⟩
              refine wp_ret (rv := some (.int (iN (zCo G (zLa G T N zj) (zLb G T N zj) (zMk G T N zj))))) rfl ?_
              refine ⟨?_, q_R1⟩
              unfold zVlot
              rw [if_neg (by omega), if_neg (by omega), if_neg (by omega), if_pos (by omega), show ((zj : Int)).toNat = zj by omega]
              unfold zOf
              rw [if_neg (by omega), if_neg (by omega), if_neg (by omega), if_neg (by omega)]
          · refine wp_run (k := 1) (pc1 := 47) (l1 := [(0, .ref 55), (1, .int (iN (zi))), (2, .int (iN (zw)))]) (st1 := [.int (iN (-2))]) (kr1 := (78, 76)) (h1 := zg1) rfl ?_
            refine wp_ret (rv := some (.int (iN (-2)))) rfl ?_
            refine ⟨?_, q_R1⟩
            rw [show zVlot N G T zi zw = -2 from ?_]
            unfold zVlot
            (repeat' split) <;> first | rfl | omega | contradiction | (exfalso; omega) | (exfalso; rename_i y_x; exact absurd y_x.2.1 (by assumption)) | (exfalso; rename_i y_x; exact y_x ⟨by omega, by assumption, by omega⟩)
        · refine wp_run (k := 2) (pc1 := 36) (l1 := [(0, .ref 55), (1, .int (iN (zi))), (2, .int (iN (zw)))]) (st1 := [.int (iN ((zKn G T N : Int)))]) (kr1 := (78, 76)) (h1 := zg1) (Eq.trans (b := (some (36, [(0, .ref 55), (1, .int (iN (zi))), (2, .int (iN (zw)))], [.int (zg1.1 55 20)], (78, 76), zg1) : Option am_C)) rfl (by simp only [q_tk.2.1, Int32.ofInt_add, Int32.ofInt_sub, Int32.ofInt_mul, Int32.ofInt_neg])) ?_
          refine wp_ret (rv := some (.int (iN ((zKn G T N : Int))))) rfl ?_
          refine ⟨?_, q_R1⟩
          rw [show zVlot N G T zi zw = (zKn G T N : Int) from ?_]
          unfold zVlot
          (repeat' split) <;> first | rfl | omega | contradiction | (exfalso; omega) | (exfalso; rename_i y_x; exact absurd y_x.2.1 (by assumption)) | (exfalso; rename_i y_x; exact y_x ⟨by omega, by assumption, by omega⟩)
      · refine wp_run (k := 1) (pc1 := 22) (l1 := [(0, .ref 55), (1, .int (iN (zi))), (2, .int (iN (zw)))]) (st1 := [.int (iN (-1))]) (kr1 := (78, 76)) (h1 := zh) rfl ?_
        refine wp_ret (rv := some (.int (iN (-1)))) rfl ?_
        refine ⟨?_, zRS_0 _⟩
        rw [show zVlot N G T zi zw = -1 from ?_]
        unfold zVlot
        (repeat' split) <;> first | rfl | omega | contradiction | (exfalso; omega) | (exfalso; rename_i y_x; exact absurd y_x.2.1 (by assumption)) | (exfalso; rename_i y_x; exact y_x ⟨by omega, by assumption, by omega⟩)
set_option maxRecDepth 20000 in
set_option maxHeartbeats 4000000 in
theorem jR_by (zd : Nat) (q_d : 8 ≤ zd) {zh : am_H} {N : Int} {G : Int → Int → Int} {S T : Int} {zp : Int} {zw : Int} (q_nm : zMm (zh.1 55) (zh.1 56) N G S T) (q_g : zGk N G S T) (q_zpr : -2147483648 ≤ zp ∧ zp < 2147483648) (q_zwr : -2147483648 ≤ zw ∧ zw < 2147483648) : am_wp zd am_m_Model_by 0 [(0, .ref 55), (1, .int (iN (zp))), (2, .int (iN (zw)))] [] (78, 76) zh (78, 76) (fun rv h' => rv = some (.int (iN (zVby N G T zp zw))) ∧ zRS zh h') := by
  obtain ⟨zd, rfl⟩ : ∃ y_e, zd = y_e + 8 := ⟨zd - 8, by omega⟩
  have q_N := q_g.1
  refine wp_run (k := 2) (pc1 := 2) (l1 := [(0, .ref 55), (1, .int (iN (zp))), (2, .int (iN (zw)))]) (st1 := [.int (iN (zp)), .ref 55]) (kr1 := (78, 76)) (h1 := zh) rfl ?_
  refine wp_call (md1 := am_m_Model_isPeriod) (As := [.ref 55, .int (iN (zp))]) (rest := []) (kr1 := (78, 76)) rfl (jm_isPeriod _ (by omega) q_nm q_g (zp := zp) (by omega)) ?_
  rintro _ _ ⟨rfl, rfl⟩
  refine wp_eqb rfl (fun b_5 => ?_) (fun b_5 => ?_)
  · refine wp_run (k := 1) (pc1 := 21) (l1 := [(0, .ref 55), (1, .int (iN (zp))), (2, .int (iN (zw)))]) (st1 := [.int (iN (-10000))]) (kr1 := (78, 76)) (h1 := zh) rfl ?_
    refine wp_ret (rv := some (.int (iN (-10000)))) rfl ?_
    refine ⟨?_, zRS_0 _⟩
    rw [show zVby N G T zp zw = -10000 from ?_]
    unfold zVby
    (repeat' split) <;> first | rfl | omega | contradiction | (exfalso; omega) | (exfalso; rename_i y_x; exact absurd y_x.2.1 (by assumption)) | (exfalso; rename_i y_x; exact y_x ⟨by omega, by assumption, by omega⟩)
  · refine wp_run (k := 4) (pc1 := 12) (l1 := [(0, .ref 55), (1, .int (iN (zp))), (2, .int (iN (zw)))]) (st1 := [.long (Int64.ofNat 1), .long (Int64.ofNat 0), .long ((iN (zw)).toInt64)]) (kr1 := (78, 76)) (h1 := zh) rfl ?_
    refine wp_call (md1 := am_m_Model_isIn) (As := [.long ((iN (zw)).toInt64), .long (Int64.ofNat 0), .long (Int64.ofNat 1)]) (rest := []) (kr1 := (78, 76)) rfl (jt_isIn _ (by omega) (i2l_i (z := zw) (by omega)) (show (Int64.ofNat 0 : Int64).toInt = 0 by decide) (show (Int64.ofNat 1 : Int64).toInt = 1 by decide)) ?_
    rintro _ _ ⟨rfl, rfl⟩
    refine wp_neb rfl (fun b_15 => ?_) (fun b_15 => ?_)
    · refine wp_run (k := 1) (pc1 := 23) (l1 := [(0, .ref 55), (1, .int (iN (zp))), (2, .int (iN (zw)))]) (st1 := [.ref 55]) (kr1 := (78, 76)) (h1 := zh) rfl ?_
      refine wp_call (md1 := am_m_Model_thePlan) (As := [.ref 55]) (rest := []) (kr1 := (78, 76)) rfl (jm_thePlan _ (by omega) q_nm q_g) ?_
      rintro _ zg1 ⟨rfl, q_f1, q_s1, q_tm1⟩
      have q_R1 : zRS zh zg1 := zRS_s q_f1 (fun c y => by simp only [List.mem_cons, List.not_mem_nil, or_false] at y ⊢; omega) (fun zs y1 _ _ => q_s1 zs y1) (k1 := 20) (k2 := 20) (k3 := 20) (by decide)
      have q_nm1 := zRS_mm q_R1 q_nm
      have q_tk := zTookM_k q_tm1
      have y_K := zIsN_le q_g q_tk.1
      have y_mhk := zMB_hk (T := T) q_g
      refine wp_run (k := 2) (pc1 := 28) (l1 := [(0, .ref 55), (1, .int (iN (zp))), (2, .int (iN (zw)))]) (st1 := [.int (iN (zw))]) (kr1 := (78, 76)) (h1 := zg1) rfl ?_
      refine wp_ne0 (a := zw) rfl (by omega) (fun b_28 => ?_) (fun b_28 => ?_)
      · refine wp_run (k := 4) (pc1 := 46) (l1 := [(0, .ref 55), (1, .int (iN (zp))), (2, .int (iN (zw)))]) (st1 := [.int (iN (zp)), .ref 66, .ref 55]) (kr1 := (78, 76)) (h1 := zg1) rfl ?_
        refine wp_call (md1 := am_m_Model_stock) (As := [.ref 55, .ref 66, .int (iN (zp))]) (rest := []) (kr1 := (78, 76)) rfl (jm_stock_66 _ (by omega) q_nm1 q_g (B := zMB G T N) (fun p y1 y2 => q_tk.2.2.2 p y1 (by omega)) (zp := zp) (by omega)) ?_
        rintro _ _ ⟨rfl, rfl⟩
        refine wp_ret (rv := some (.int (iN (zSt G (zMB G T N) (zp))))) rfl ?_
        refine ⟨?_, q_R1⟩
        rw [show zVby N G T zp zw = zSt G (zMB G T N) (zp) from ?_]
        unfold zVby
        (repeat' split) <;> first | rfl | omega | contradiction | (exfalso; omega) | (exfalso; rename_i y_x; exact absurd y_x.2.1 (by assumption)) | (exfalso; rename_i y_x; exact y_x ⟨by omega, by assumption, by omega⟩)
      · refine wp_run (k := 3) (pc1 := 36) (l1 := [(0, .ref 55), (1, .int (iN (zp))), (2, .int (iN (zw)))]) (st1 := [.int (iN (zp)), .ref 66]) (kr1 := (78, 76)) (h1 := zg1) rfl ?_
        refine wp_iald (f := zg1.1 66) (z := zp) (j := (zp).toNat) (n := 16) (v := iN (zMB G T N (zp))) rfl rfl (by omega) (by omega) (by decide) (q_tk.2.2.2 (zp) (by omega) (by omega)) ?_
        refine wp_run (k := 1) (pc1 := 49) (l1 := [(0, .ref 55), (1, .int (iN (zp))), (2, .int (iN (zw)))]) (st1 := [.int (iN (zMB G T N (zp)))]) (kr1 := (78, 76)) (h1 := zg1) rfl ?_
        refine wp_ret (rv := some (.int (iN (zMB G T N (zp))))) rfl ?_
        refine ⟨?_, q_R1⟩
        rw [show zVby N G T zp zw = zMB G T N (zp) from ?_]
        unfold zVby
        (repeat' split) <;> first | rfl | omega | contradiction | (exfalso; omega) | (exfalso; rename_i y_x; exact absurd y_x.2.1 (by assumption)) | (exfalso; rename_i y_x; exact y_x ⟨by omega, by assumption, by omega⟩)
    · refine wp_run (k := 1) (pc1 := 21) (l1 := [(0, .ref 55), (1, .int (iN (zp))), (2, .int (iN (zw)))]) (st1 := [.int (iN (-10000))]) (kr1 := (78, 76)) (h1 := zh) rfl ?_
      refine wp_ret (rv := some (.int (iN (-10000)))) rfl ?_
      refine ⟨?_, zRS_0 _⟩
      rw [show zVby N G T zp zw = -10000 from ?_]
      unfold zVby
      (repeat' split) <;> first | rfl | omega | contradiction | (exfalso; omega) | (exfalso; rename_i y_x; exact absurd y_x.2.1 (by assumption)) | (exfalso; rename_i y_x; exact y_x ⟨by omega, by assumption, by omega⟩)
set_option maxRecDepth 20000 in
set_option maxHeartbeats 4000000 in
theorem jR_forward (zd : Nat) (q_d : 7 ≤ zd) {zh : am_H} {N : Int} {G : Int → Int → Int} {S T : Int} {zp : Int} {zw : Int} (q_nm : zMm (zh.1 55) (zh.1 56) N G S T) (q_g : zGk N G S T) (q_zpr : -2147483648 ≤ zp ∧ zp < 2147483648) (q_zwr : -2147483648 ≤ zw ∧ zw < 2147483648) : am_wp zd am_m_Model_forward 0 [(0, .ref 55), (1, .int (iN (zp))), (2, .int (iN (zw)))] [] (78, 76) zh (78, 76) (fun rv h' => rv = some (.int (iN (zVfwd N G T zp zw))) ∧ zRS zh h') := by
  obtain ⟨zd, rfl⟩ : ∃ y_e, zd = y_e + 7 := ⟨zd - 7, by omega⟩
  have q_N := q_g.1
  refine wp_run (k := 6) (pc1 := 8) (l1 := [(0, .ref 55), (1, .int (iN (zp))), (2, .int (iN (zw)))]) (st1 := [.long ((iN (N)).toInt64), .long (Int64.ofNat 0), .long ((iN (zp)).toInt64)]) (kr1 := (78, 76)) (h1 := zh) (Eq.trans (b := (some (8, [(0, .ref 55), (1, .int (iN (zp))), (2, .int (iN (zw)))], [.long ((zh.1 55 0).toInt64), .long (Int64.ofNat 0), .long ((iN (zp)).toInt64)], (78, 76), zh) : Option am_C)) rfl (by simp only [q_nm.1, Int32.ofInt_add, Int32.ofInt_sub, Int32.ofInt_mul, Int32.ofInt_neg])) ?_
  refine wp_call (md1 := am_m_Model_isIn) (As := [.long ((iN (zp)).toInt64), .long (Int64.ofNat 0), .long ((iN (N)).toInt64)]) (rest := []) (kr1 := (78, 76)) rfl (jt_isIn _ (by omega) (i2l_i (z := zp) (by omega)) (show (Int64.ofNat 0 : Int64).toInt = 0 by decide) (i2l_i (z := N) (by omega))) ?_
  rintro _ _ ⟨rfl, rfl⟩
  refine wp_eqb rfl (fun b_11 => ?_) (fun b_11 => ?_)
  · refine wp_run (k := 1) (pc1 := 27) (l1 := [(0, .ref 55), (1, .int (iN (zp))), (2, .int (iN (zw)))]) (st1 := [.int (iN (-1))]) (kr1 := (78, 76)) (h1 := zh) rfl ?_
    refine wp_ret (rv := some (.int (iN (-1)))) rfl ?_
    refine ⟨?_, zRS_0 _⟩
    rw [show zVfwd N G T zp zw = -1 from ?_]
    unfold zVfwd
    (repeat' split) <;> first | rfl | omega | contradiction | (exfalso; omega) | (exfalso; rename_i y_x; exact absurd y_x.2.1 (by assumption)) | (exfalso; rename_i y_x; exact y_x ⟨by omega, by assumption, by omega⟩)
  · refine wp_run (k := 4) (pc1 := 20) (l1 := [(0, .ref 55), (1, .int (iN (zp))), (2, .int (iN (zw)))]) (st1 := [.long ((2 : Int64)), .long (Int64.ofNat 0), .long ((iN (zw)).toInt64)]) (kr1 := (78, 76)) (h1 := zh) rfl ?_
    refine wp_call (md1 := am_m_Model_isIn) (As := [.long ((iN (zw)).toInt64), .long (Int64.ofNat 0), .long ((2 : Int64))]) (rest := []) (kr1 := (78, 76)) rfl (jt_isIn _ (by omega) (i2l_i (z := zw) (by omega)) (show (Int64.ofNat 0 : Int64).toInt = 0 by decide) (show ((2 : Int64) : Int64).toInt = 2 by decide)) ?_
    rintro _ _ ⟨rfl, rfl⟩
    refine wp_neb rfl (fun b_23 => ?_) (fun b_23 => ?_)
    · refine wp_run (k := 1) (pc1 := 29) (l1 := [(0, .ref 55), (1, .int (iN (zp))), (2, .int (iN (zw)))]) (st1 := [.ref 55]) (kr1 := (78, 76)) (h1 := zh) rfl ?_
      refine wp_call (md1 := am_m_Model_forwards) (As := [.ref 55]) (rest := []) (kr1 := (78, 76)) rfl (jm_forwards _ (by omega) q_nm q_g) ?_
      rintro _ zg1 ⟨rfl, q_f1, q_w1⟩
      have q_R1 : zRS zh zg1 := zRS_f q_f1 (fun c y => by simp only [List.mem_cons, List.not_mem_nil, or_false] at y ⊢; omega) (by decide)
      have q_nm1 := zRS_mm q_R1 q_nm
      have y_W := zWd_r q_g (T := T) (x := zp) (by omega) (by omega)
      have y_W2 := (zWd_t q_g (T := T) (x := zp) (by omega) (by omega)).2
      have y_D0 := zD_rg q_g (a := 0) (b := zp - 1) (by omega) (by omega) (by omega)
      refine wp_run (k := 1) (pc1 := 33) (l1 := [(0, .ref 55), (1, .int (iN (zp))), (2, .int (iN (zw)))]) (st1 := [.int (iN (zw))]) (kr1 := (78, 76)) (h1 := zg1) rfl ?_
      refine wp_ne0 (a := zw) rfl (by omega) (fun b_33 => ?_) (fun b_33 => ?_)
      · refine wp_run (k := 2) (pc1 := 44) (l1 := [(0, .ref 55), (1, .int (iN (zp))), (2, .int (iN (zw)))]) (st1 := [.int (iN (zp)), .ref 55]) (kr1 := (78, 76)) (h1 := zg1) rfl ?_
        refine wp_call (md1 := am_m_Model_lastOf) (As := [.ref 55, .int (iN (zp))]) (rest := []) (kr1 := (78, 76)) rfl (jm_lastOf _ (by omega) q_nm1 q_g (zt := zp) (by omega) q_w1) ?_
        rintro _ _ ⟨rfl, rfl⟩
        obtain ⟨zl, y_l, y_l1⟩ : ∃ zl : Int, (if 0 < zD G 0 (zp - 1) then (zWd G T zp).2 else -2) = zl ∧ ((0 ≤ (zWd G T zp).2 ∧ zl = (zWd G T zp).2) ∨ ((zWd G T zp).2 = -1 ∧ zl = -2)) := by
          by_cases y : 0 < zD G 0 (zp - 1)
          · exact ⟨_, if_pos y, Or.inl ⟨by omega, rfl⟩⟩
          · exact ⟨_, if_neg y, Or.inr ⟨by rw [y_W2 (by omega)], rfl⟩⟩
        rw [y_l]
        refine wp_run (k := 3) (pc1 := 50) (l1 := [(0, .ref 55), (1, .int (iN (zp))), (2, .int (iN (zw))), (3, .int (iN (zl)))]) (st1 := [.int (iN (1)), .int (iN (zw))]) (kr1 := (78, 76)) (h1 := zg1) rfl ?_
        refine wp_ne (a := zw) (b := 1) rfl (by omega) (by omega) (fun b_50 => ?_) (fun b_50 => ?_)
        · refine wp_run (k := 1) (pc1 := 56) (l1 := [(0, .ref 55), (1, .int (iN (zp))), (2, .int (iN (zw))), (3, .int (iN (zl)))]) (st1 := [.ref 55]) (kr1 := (78, 76)) (h1 := zg1) rfl ?_
          refine wp_call (md1 := am_m_Model_isCalm) (As := [.ref 55]) (rest := []) (kr1 := (78, 76)) rfl (jm_isCalm _ (by omega) q_nm1 q_g) ?_
          rintro _ _ ⟨rfl, rfl⟩
          refine wp_eqb rfl (fun b_59 => ?_) (fun b_59 => ?_)
          · refine wp_run (k := 1) (pc1 := 84) (l1 := [(0, .ref 55), (1, .int (iN (zp))), (2, .int (iN (zw))), (3, .int (iN (zl)))]) (st1 := [.int (iN (0))]) (kr1 := (78, 76)) (h1 := zg1) rfl ?_
            refine wp_ret (rv := some (.int (iN (0)))) rfl ?_
            refine ⟨?_, q_R1⟩
            rw [show zVfwd N G T zp zw = 0 from ?_]
            rcases y_l1 with ⟨y_l2, rfl⟩ | ⟨y_l2, rfl⟩
            · unfold zVfwd
              (repeat' split) <;> first | rfl | omega | contradiction | (exfalso; omega) | (exfalso; rename_i y_x; exact absurd y_x.2.1 (by assumption)) | (exfalso; rename_i y_x; exact y_x ⟨by omega, by assumption, by omega⟩)
            · unfold zVfwd
              (repeat' split) <;> first | rfl | omega | contradiction | (exfalso; omega) | (exfalso; rename_i y_x; exact absurd y_x.2.1 (by assumption)) | (exfalso; rename_i y_x; exact y_x ⟨by omega, by assumption, by omega⟩)
          · refine wp_run (k := 1) (pc1 := 63) (l1 := [(0, .ref 55), (1, .int (iN (zp))), (2, .int (iN (zw))), (3, .int (iN (zl)))]) (st1 := [.int (iN (zl))]) (kr1 := (78, 76)) (h1 := zg1) rfl ?_
            refine wp_lt0 (a := zl) rfl (by omega) (fun b_63 => ?_) (fun b_63 => ?_)
            · refine wp_run (k := 1) (pc1 := 84) (l1 := [(0, .ref 55), (1, .int (iN (zp))), (2, .int (iN (zw))), (3, .int (iN (zl)))]) (st1 := [.int (iN (0))]) (kr1 := (78, 76)) (h1 := zg1) rfl ?_
              refine wp_ret (rv := some (.int (iN (0)))) rfl ?_
              refine ⟨?_, q_R1⟩
              rw [show zVfwd N G T zp zw = 0 from ?_]
              rcases y_l1 with ⟨y_l2, rfl⟩ | ⟨y_l2, rfl⟩
              · unfold zVfwd
                (repeat' split) <;> first | rfl | omega | contradiction | (exfalso; omega) | (exfalso; rename_i y_x; exact absurd y_x.2.1 (by assumption)) | (exfalso; rename_i y_x; exact y_x ⟨by omega, by assumption, by omega⟩)
              · unfold zVfwd
                (repeat' split) <;> first | rfl | omega | contradiction | (exfalso; omega) | (exfalso; rename_i y_x; exact absurd y_x.2.1 (by assumption)) | (exfalso; rename_i y_x; exact y_x ⟨by omega, by assumption, by omega⟩)
            · have y_D := zD_rg q_g (a := zl + 1) (b := zp - 1) (by omega) (by omega) (by omega)
              refine wp_run (k := 7) (pc1 := 73) (l1 := [(0, .ref 55), (1, .int (iN (zp))), (2, .int (iN (zw))), (3, .int (iN (zl)))]) (st1 := [.int (iN ((zp) - (1))), .int (iN ((zl) + (1))), .ref 55]) (kr1 := (78, 76)) (h1 := zg1) (Eq.trans (b := (some (73, [(0, .ref 55), (1, .int (iN (zp))), (2, .int (iN (zw))), (3, .int (iN (zl)))], [.int ((iN (zp)) - (iN (1))), .int ((iN (zl)) + (iN (1))), .ref 55], (78, 76), zg1) : Option am_C)) rfl (by simp only [Int32.ofInt_add, Int32.ofInt_sub, Int32.ofInt_mul, Int32.ofInt_neg])) ?_
              refine wp_call (md1 := am_m_Model_demand) (As := [.ref 55, .int (iN ((zl) + (1))), .int (iN ((zp) - (1)))]) (rest := []) (kr1 := (78, 76)) rfl (jm_demand _ (by omega) q_nm1 q_g (za := (zl) + (1)) (zb := (zp) - (1)) (by omega)) ?_
              rintro _ _ ⟨rfl, rfl⟩
              refine wp_ne0 (a := zD G ((zl) + (1)) ((zp) - (1))) rfl (by omega) (fun b_76 => ?_) (fun b_76 => ?_)
              · refine wp_run (k := 1) (pc1 := 84) (l1 := [(0, .ref 55), (1, .int (iN (zp))), (2, .int (iN (zw))), (3, .int (iN (zl)))]) (st1 := [.int (iN (0))]) (kr1 := (78, 76)) (h1 := zg1) rfl ?_
                refine wp_ret (rv := some (.int (iN (0)))) rfl ?_
                refine ⟨?_, q_R1⟩
                rw [show zVfwd N G T zp zw = 0 from ?_]
                rcases y_l1 with ⟨y_l2, rfl⟩ | ⟨y_l2, rfl⟩
                · unfold zVfwd
                  (repeat' split) <;> first | rfl | omega | contradiction | (exfalso; omega) | (exfalso; rename_i y_x; exact absurd y_x.2.1 (by assumption)) | (exfalso; rename_i y_x; exact y_x ⟨by omega, by assumption, by omega⟩)
                · unfold zVfwd
                  (repeat' split) <;> first | rfl | omega | contradiction | (exfalso; omega) | (exfalso; rename_i y_x; exact absurd y_x.2.1 (by assumption)) | (exfalso; rename_i y_x; exact y_x ⟨by omega, by assumption, by omega⟩)
              · refine wp_run (k := 2) (pc1 := 84) (l1 := [(0, .ref 55), (1, .int (iN (zp))), (2, .int (iN (zw))), (3, .int (iN (zl)))]) (st1 := [.int (iN (zl))]) (kr1 := (78, 76)) (h1 := zg1) rfl ?_
                refine wp_ret (rv := some (.int (iN (zl)))) rfl ?_
                refine ⟨?_, q_R1⟩
                rw [show zVfwd N G T zp zw = zl from ?_]
                rcases y_l1 with ⟨y_l2, rfl⟩ | ⟨y_l2, rfl⟩
                · unfold zVfwd
                  (repeat' split) <;> first | rfl | omega | contradiction | (exfalso; omega) | (exfalso; rename_i y_x; exact absurd y_x.2.1 (by assumption)) | (exfalso; rename_i y_x; exact y_x ⟨by omega, by assumption, by omega⟩)
                · unfold zVfwd
                  (repeat' split) <;> first | rfl | omega | contradiction | (exfalso; omega) | (exfalso; rename_i y_x; exact absurd y_x.2.1 (by assumption)) | (exfalso; rename_i y_x; exact y_x ⟨by omega, by assumption, by omega⟩)
        · refine wp_run (k := 1) (pc1 := 54) (l1 := [(0, .ref 55), (1, .int (iN (zp))), (2, .int (iN (zw))), (3, .int (iN (zl)))]) (st1 := [.int (iN (zl))]) (kr1 := (78, 76)) (h1 := zg1) rfl ?_
          refine wp_ret (rv := some (.int (iN (zl)))) rfl ?_
          refine ⟨?_, q_R1⟩
          rw [show zVfwd N G T zp zw = zl from ?_]
          rcases y_l1 with ⟨y_l2, rfl⟩ | ⟨y_l2, rfl⟩
          · unfold zVfwd
            (repeat' split) <;> first | rfl | omega | contradiction | (exfalso; omega) | (exfalso; rename_i y_x; exact absurd y_x.2.1 (by assumption)) | (exfalso; rename_i y_x; exact y_x ⟨by omega, by assumption, by omega⟩)
          · unfold zVfwd
            (repeat' split) <;> first | rfl | omega | contradiction | (exfalso; omega) | (exfalso; rename_i y_x; exact absurd y_x.2.1 (by assumption)) | (exfalso; rename_i y_x; exact y_x ⟨by omega, by assumption, by omega⟩)
      · refine wp_run (k := 2) (pc1 := 38) (l1 := [(0, .ref 55), (1, .int (iN (zp))), (2, .int (iN (zw)))]) (st1 := [.int (iN (zp)), .ref 55]) (kr1 := (78, 76)) (h1 := zg1) rfl ?_
        refine wp_call (md1 := am_m_Model_forwardOf) (As := [.ref 55, .int (iN (zp))]) (rest := []) (kr1 := (78, 76)) rfl (jm_forwardOf _ (by omega) q_nm1 q_g (zt := zp) (by omega) q_w1) ?_
        rintro _ _ ⟨rfl, rfl⟩
        refine wp_ret (rv := some (.int (iN ((zWd G T zp).1)))) rfl ?_
        refine ⟨?_, q_R1⟩
        rw [show zVfwd N G T zp zw = (zWd G T zp).1 from ?_]
        unfold zVfwd
        (repeat' split) <;> first | rfl | omega | contradiction | (exfalso; omega) | (exfalso; rename_i y_x; exact absurd y_x.2.1 (by assumption)) | (exfalso; rename_i y_x; exact y_x ⟨by omega, by assumption, by omega⟩)
    · refine wp_run (k := 1) (pc1 := 27) (l1 := [(0, .ref 55), (1, .int (iN (zp))), (2, .int (iN (zw)))]) (st1 := [.int (iN (-1))]) (kr1 := (78, 76)) (h1 := zh) rfl ?_
      refine wp_ret (rv := some (.int (iN (-1)))) rfl ?_
      refine ⟨?_, zRS_0 _⟩
      rw [show zVfwd N G T zp zw = -1 from ?_]
      unfold zVfwd
      (repeat' split) <;> first | rfl | omega | contradiction | (exfalso; omega) | (exfalso; rename_i y_x; exact absurd y_x.2.1 (by assumption)) | (exfalso; rename_i y_x; exact y_x ⟨by omega, by assumption, by omega⟩)
set_option maxRecDepth 20000 in
set_option maxHeartbeats 4000000 in
theorem jR_part (zd : Nat) (q_d : 7 ≤ zd) {zh : am_H} {N : Int} {G : Int → Int → Int} {S T : Int} {za : Int} {zn : Int} (q_nm : zMm (zh.1 55) (zh.1 56) N G S T) (q_g : zGk N G S T) (q_zar : -2147483648 ≤ za ∧ za < 2147483648) (q_znr : -2147483648 ≤ zn ∧ zn < 2147483648) : am_wp zd am_m_Model_part 0 [(0, .ref 55), (1, .int (iN (za))), (2, .int (iN (zn)))] [] (78, 76) zh (78, 76) (fun rv h' => rv = some (.int (iN (zVpart N G T za zn))) ∧ zRS zh h') := by
  obtain ⟨zd, rfl⟩ : ∃ y_e, zd = y_e + 7 := ⟨zd - 7, by omega⟩
  have q_N := q_g.1
  refine wp_run (k := 6) (pc1 := 8) (l1 := [(0, .ref 55), (1, .int (iN (za))), (2, .int (iN (zn)))]) (st1 := [.long ((iN (N)).toInt64), .long (Int64.ofNat 0), .long ((iN (zn)).toInt64)]) (kr1 := (78, 76)) (h1 := zh) (Eq.trans (b := (some (8, [(0, .ref 55), (1, .int (iN (za))), (2, .int (iN (zn)))], [.long ((zh.1 55 0).toInt64), .long (Int64.ofNat 0), .long ((iN (zn)).toInt64)], (78, 76), zh) : Option am_C)) rfl (by simp only [q_nm.1, Int32.ofInt_add, Int32.ofInt_sub, Int32.ofInt_mul, Int32.ofInt_neg])) ?_
  refine wp_call (md1 := am_m_Model_isIn) (As := [.long ((iN (zn)).toInt64), .long (Int64.ofNat 0), .long ((iN (N)).toInt64)]) (rest := []) (kr1 := (78, 76)) rfl (jt_isIn _ (by omega) (i2l_i (z := zn) (by omega)) (show (Int64.ofNat 0 : Int64).toInt = 0 by decide) (i2l_i (z := N) (by omega))) ?_
  rintro _ _ ⟨rfl, rfl⟩
  refine wp_eqb rfl (fun b_11 => ?_) (fun b_11 => ?_)
  · refine wp_run (k := 1) (pc1 := 26) (l1 := [(0, .ref 55), (1, .int (iN (za))), (2, .int (iN (zn)))]) (st1 := [.int (iN (-1))]) (kr1 := (78, 76)) (h1 := zh) rfl ?_
    refine wp_ret (rv := some (.int (iN (-1)))) rfl ?_
    refine ⟨?_, zRS_0 _⟩
    rw [show zVpart N G T za zn = -1 from ?_]
    unfold zVpart
    (repeat' split) <;> first | rfl | omega | contradiction | (exfalso; omega) | (exfalso; rename_i y_x; exact absurd y_x.2.1 (by assumption)) | (exfalso; rename_i y_x; exact y_x ⟨by omega, by assumption, by omega⟩)
  · refine wp_run (k := 5) (pc1 := 19) (l1 := [(0, .ref 55), (1, .int (iN (za))), (2, .int (iN (zn)))]) (st1 := [.long ((iN (zn)).toInt64), .long (Int64.ofNat 0), .long ((iN (za)).toInt64)]) (kr1 := (78, 76)) (h1 := zh) rfl ?_
    refine wp_call (md1 := am_m_Model_isIn) (As := [.long ((iN (za)).toInt64), .long (Int64.ofNat 0), .long ((iN (zn)).toInt64)]) (rest := []) (kr1 := (78, 76)) rfl (jt_isIn _ (by omega) (i2l_i (z := za) (by omega)) (show (Int64.ofNat 0 : Int64).toInt = 0 by decide) (i2l_i (z := zn) (by omega))) ?_
    rintro _ _ ⟨rfl, rfl⟩
    refine wp_neb rfl (fun b_22 => ?_) (fun b_22 => ?_)
    · refine wp_run (k := 3) (pc1 := 30) (l1 := [(0, .ref 55), (1, .int (iN (za))), (2, .int (iN (zn)))]) (st1 := [.int (iN (zn)), .int (iN (za)), .ref 55]) (kr1 := (78, 76)) (h1 := zh) rfl ?_
      refine wp_call (md1 := am_m_Model_plans) (As := [.ref 55, .int (iN (za)), .int (iN (zn))]) (rest := []) (kr1 := (78, 76)) rfl (jm_plans _ (by omega) q_nm q_g (za := za) (zn := zn) (by omega)) ?_
      rintro _ zg1 ⟨rfl, q_f1, q_row1⟩
      have q_R1 : zRS zh zg1 := zRS_f q_f1 (fun c y => by simp only [List.mem_cons, List.not_mem_nil, or_false] at y ⊢; omega) (by decide)
      refine wp_ret (rv := some (.int (iN ((zPv G T (zn) (za)).1)))) rfl ?_
      refine ⟨?_, q_R1⟩
      rw [show zVpart N G T za zn = (zPv G T (zn) (za)).1 from ?_]
      unfold zVpart
      (repeat' split) <;> first | rfl | omega | contradiction | (exfalso; omega) | (exfalso; rename_i y_x; exact absurd y_x.2.1 (by assumption)) | (exfalso; rename_i y_x; exact y_x ⟨by omega, by assumption, by omega⟩)
    · refine wp_run (k := 1) (pc1 := 26) (l1 := [(0, .ref 55), (1, .int (iN (za))), (2, .int (iN (zn)))]) (st1 := [.int (iN (-1))]) (kr1 := (78, 76)) (h1 := zh) rfl ?_
      refine wp_ret (rv := some (.int (iN (-1)))) rfl ?_
      refine ⟨?_, zRS_0 _⟩
      rw [show zVpart N G T za zn = -1 from ?_]
      unfold zVpart
      (repeat' split) <;> first | rfl | omega | contradiction | (exfalso; omega) | (exfalso; rename_i y_x; exact absurd y_x.2.1 (by assumption)) | (exfalso; rename_i y_x; exact y_x ⟨by omega, by assumption, by omega⟩)
theorem jR_ways (zd : Nat) (q_d : 6 ≤ zd) {zh : am_H} {N : Int} {G : Int → Int → Int} {S T : Int} (q_nm : zMm (zh.1 55) (zh.1 56) N G S T) (q_g : zGk N G S T) : am_wp zd am_m_Model_ways 0 [(0, .ref 55)] [] (78, 76) zh (78, 76) (fun rv h' => rv = some (.int (iN ((zPv G T N 0).2.2))) ∧ zRS zh h') := wp_con (jm_ways zd q_d q_nm q_g) (fun rv h' q => ⟨q.1, zRS_f q.2 (fun c y => by simp only [List.mem_cons, List.not_mem_nil, or_false] at y ⊢; omega) (by decide)⟩)
set_option maxRecDepth 20000 in
set_option maxHeartbeats 4000000 in
theorem jR_bounded (zd : Nat) (q_d : 7 ≤ zd) {zh : am_H} {N : Int} {G : Int → Int → Int} {S T : Int} {zp : Int} (q_nm : zMm (zh.1 55) (zh.1 56) N G S T) (q_g : zGk N G S T) (q_zpr : -2147483648 ≤ zp ∧ zp < 2147483648) : am_wp zd am_m_Model_bounded 0 [(0, .ref 55), (1, .int (iN (zp)))] [] (78, 76) zh (78, 76) (fun rv h' => rv = some (.int (iN (zVbd N G S T zp))) ∧ zRS zh h') := by
  obtain ⟨zd, rfl⟩ : ∃ y_e, zd = y_e + 7 := ⟨zd - 7, by omega⟩
  have q_N := q_g.1
  refine wp_run (k := 2) (pc1 := 2) (l1 := [(0, .ref 55), (1, .int (iN (zp)))]) (st1 := [.int (iN (-1)), .int (iN (zp))]) (kr1 := (78, 76)) (h1 := zh) rfl ?_
  refine wp_eq (a := zp) (b := -1) rfl (by omega) (by omega) (fun b_2 => ?_) (fun b_2 => ?_)
  · refine wp_run (k := 1) (pc1 := 16) (l1 := [(0, .ref 55), (1, .int (iN (zp)))]) (st1 := [.ref 55]) (kr1 := (78, 76)) (h1 := zh) rfl ?_
    refine wp_call (md1 := am_m_Model_boundedNow) (As := [.ref 55]) (rest := []) (kr1 := (78, 76)) rfl (jm_bounded _ (by omega) q_nm q_g) ?_
    rintro _ zg1 ⟨rfl, q_f1, q_bm1⟩
    have q_R1 : zRS zh zg1 := zRS_f q_f1 (fun c y => by simp only [List.mem_cons, List.not_mem_nil, or_false] at y ⊢; omega) (by decide)
    have y_d := zD_rg q_g (a := 0) (b := N - 1) (by omega) (by omega) (by omega)
    have y_st : zBst N G S T = 0 ∨ zBst N G S T = -2 ∨ zBst N G S T = -7 := by unfold zBst; (repeat' split) <;> omega
    obtain ⟨zv, y_v, y_v1⟩ : ∃ zv : Int, (if zBst N G S T = 0 then zVb N G S T (zD G 0 (N - 1)) 0 0 else zBst N G S T) = zv ∧ ((zBst N G S T = 0 ∧ zv = zVb N G S T (zD G 0 (N - 1)) 0 0 ∧ 0 ≤ zv ∧ zv ≤ 1000000000) ∨ (¬ zBst N G S T = 0 ∧ zv = zBst N G S T)) := by
      by_cases y : zBst N G S T = 0
      · have y2 := zVb_r (S := S) (T := T) q_g (R := zD G 0 (N - 1)) ⟨y_d.1, (zBst_0 y).1⟩ (p := 0) (c := 0) (by omega) (by omega)
        exact ⟨_, if_pos y, Or.inl ⟨y, rfl, by omega, by omega⟩⟩
      · exact ⟨_, if_neg y, Or.inr ⟨y, rfl⟩⟩
    rw [y_v]
    refine wp_run (k := 2) (pc1 := 21) (l1 := [(0, .ref 55), (1, .int (iN (zp))), (2, .int (iN (zv)))]) (st1 := [.int (iN (zv))]) (kr1 := (78, 76)) (h1 := zg1) rfl ?_
    refine wp_lt0 (a := zv) rfl (by omega) (fun b_21 => ?_) (fun b_21 => ?_)
    · refine wp_run (k := 2) (pc1 := 38) (l1 := [(0, .ref 55), (1, .int (iN (zp))), (2, .int (iN (zv)))]) (st1 := [.int (iN (zv))]) (kr1 := (78, 76)) (h1 := zg1) rfl ?_
      refine wp_ret (rv := some (.int (iN (zv)))) rfl ?_
      refine ⟨?_, q_R1⟩
      rw [show zVbd N G S T zp = zv from ?_]
      unfold zVbd
      (repeat' split) <;> first | rfl | omega | contradiction | (exfalso; omega) | (exfalso; rename_i y_x; exact absurd y_x.2.1 (by assumption)) | (exfalso; rename_i y_x; exact y_x ⟨by omega, by assumption, by omega⟩)
    · refine wp_run (k := 1) (pc1 := 25) (l1 := [(0, .ref 55), (1, .int (iN (zp))), (2, .int (iN (zv)))]) (st1 := [.int (iN (zp))]) (kr1 := (78, 76)) (h1 := zg1) rfl ?_
      refine wp_ge0 (a := zp) rfl (by omega) (fun b_25 => ?_) (fun b_25 => ?_)
      · refine wp_run (k := 3) (pc1 := 37) (l1 := [(0, .ref 55), (1, .int (iN (zp))), (2, .int (iN (zv)))]) (st1 := [.int (iN (zp)), .ref 71]) (kr1 := (78, 76)) (h1 := zg1) rfl ?_
        refine wp_iald (f := zg1.1 71) (z := zp) (j := (zp).toNat) (n := 16) (v := iN (zBm N G S T (zD G 0 (N - 1)) (zp))) rfl rfl (by omega) (by omega) (by decide) (q_bm1 (by omega) (zp) (by omega) (by omega)) ?_
        refine wp_ret (rv := some (.int (iN (zBm N G S T (zD G 0 (N - 1)) (zp))))) rfl ?_
        refine ⟨?_, q_R1⟩
        rw [show zVbd N G S T zp = zBm N G S T (zD G 0 (N - 1)) (zp) from ?_]
        unfold zVbd
        (repeat' split) <;> first | rfl | omega | contradiction | (exfalso; omega) | (exfalso; rename_i y_x; exact absurd y_x.2.1 (by assumption)) | (exfalso; rename_i y_x; exact y_x ⟨by omega, by assumption, by omega⟩)
      · refine wp_run (k := 2) (pc1 := 38) (l1 := [(0, .ref 55), (1, .int (iN (zp))), (2, .int (iN (zv)))]) (st1 := [.int (iN (zv))]) (kr1 := (78, 76)) (h1 := zg1) rfl ?_
        refine wp_ret (rv := some (.int (iN (zv)))) rfl ?_
        refine ⟨?_, q_R1⟩
        rw [show zVbd N G S T zp = zv from ?_]
        unfold zVbd
        (repeat' split) <;> first | rfl | omega | contradiction | (exfalso; omega) | (exfalso; rename_i y_x; exact absurd y_x.2.1 (by assumption)) | (exfalso; rename_i y_x; exact y_x ⟨by omega, by assumption, by omega⟩)
  · refine wp_run (k := 2) (pc1 := 7) (l1 := [(0, .ref 55), (1, .int (iN (zp)))]) (st1 := [.int (iN (zp)), .ref 55]) (kr1 := (78, 76)) (h1 := zh) rfl ?_
    refine wp_call (md1 := am_m_Model_isPeriod) (As := [.ref 55, .int (iN (zp))]) (rest := []) (kr1 := (78, 76)) rfl (jm_isPeriod _ (by omega) q_nm q_g (zp := zp) (by omega)) ?_
    rintro _ _ ⟨rfl, rfl⟩
    refine wp_neb rfl (fun b_10 => ?_) (fun b_10 => ?_)
    · refine wp_run (k := 1) (pc1 := 16) (l1 := [(0, .ref 55), (1, .int (iN (zp)))]) (st1 := [.ref 55]) (kr1 := (78, 76)) (h1 := zh) rfl ?_
      refine wp_call (md1 := am_m_Model_boundedNow) (As := [.ref 55]) (rest := []) (kr1 := (78, 76)) rfl (jm_bounded _ (by omega) q_nm q_g) ?_
      rintro _ zg1 ⟨rfl, q_f1, q_bm1⟩
      have q_R1 : zRS zh zg1 := zRS_f q_f1 (fun c y => by simp only [List.mem_cons, List.not_mem_nil, or_false] at y ⊢; omega) (by decide)
      have y_d := zD_rg q_g (a := 0) (b := N - 1) (by omega) (by omega) (by omega)
      have y_st : zBst N G S T = 0 ∨ zBst N G S T = -2 ∨ zBst N G S T = -7 := by unfold zBst; (repeat' split) <;> omega
      obtain ⟨zv, y_v, y_v1⟩ : ∃ zv : Int, (if zBst N G S T = 0 then zVb N G S T (zD G 0 (N - 1)) 0 0 else zBst N G S T) = zv ∧ ((zBst N G S T = 0 ∧ zv = zVb N G S T (zD G 0 (N - 1)) 0 0 ∧ 0 ≤ zv ∧ zv ≤ 1000000000) ∨ (¬ zBst N G S T = 0 ∧ zv = zBst N G S T)) := by
        by_cases y : zBst N G S T = 0
        · have y2 := zVb_r (S := S) (T := T) q_g (R := zD G 0 (N - 1)) ⟨y_d.1, (zBst_0 y).1⟩ (p := 0) (c := 0) (by omega) (by omega)
          exact ⟨_, if_pos y, Or.inl ⟨y, rfl, by omega, by omega⟩⟩
        · exact ⟨_, if_neg y, Or.inr ⟨y, rfl⟩⟩
      rw [y_v]
      refine wp_run (k := 2) (pc1 := 21) (l1 := [(0, .ref 55), (1, .int (iN (zp))), (2, .int (iN (zv)))]) (st1 := [.int (iN (zv))]) (kr1 := (78, 76)) (h1 := zg1) rfl ?_
      refine wp_lt0 (a := zv) rfl (by omega) (fun b_21 => ?_) (fun b_21 => ?_)
      · refine wp_run (k := 2) (pc1 := 38) (l1 := [(0, .ref 55), (1, .int (iN (zp))), (2, .int (iN (zv)))]) (st1 := [.int (iN (zv))]) (kr1 := (78, 76)) (h1 := zg1) rfl ?_
        refine wp_ret (rv := some (.int (iN (zv)))) rfl ?_
        refine ⟨?_, q_R1⟩
        rw [show zVbd N G S T zp = zv from ?_]
        unfold zVbd
        (repeat' split) <;> first | rfl | omega | contradiction | (exfalso; omega) | (exfalso; rename_i y_x; exact absurd y_x.2.1 (by assumption)) | (exfalso; rename_i y_x; exact y_x ⟨by omega, by assumption, by omega⟩)
      · refine wp_run (k := 1) (pc1 := 25) (l1 := [(0, .ref 55), (1, .int (iN (zp))), (2, .int (iN (zv)))]) (st1 := [.int (iN (zp))]) (kr1 := (78, 76)) (h1 := zg1) rfl ?_
        refine wp_ge0 (a := zp) rfl (by omega) (fun b_25 => ?_) (fun b_25 => ?_)
        · refine wp_run (k := 3) (pc1 := 37) (l1 := [(0, .ref 55), (1, .int (iN (zp))), (2, .int (iN (zv)))]) (st1 := [.int (iN (zp)), .ref 71]) (kr1 := (78, 76)) (h1 := zg1) rfl ?_
          refine wp_iald (f := zg1.1 71) (z := zp) (j := (zp).toNat) (n := 16) (v := iN (zBm N G S T (zD G 0 (N - 1)) (zp))) rfl rfl (by omega) (by omega) (by decide) (q_bm1 (by omega) (zp) (by omega) (by omega)) ?_
          refine wp_ret (rv := some (.int (iN (zBm N G S T (zD G 0 (N - 1)) (zp))))) rfl ?_
          refine ⟨?_, q_R1⟩
          rw [show zVbd N G S T zp = zBm N G S T (zD G 0 (N - 1)) (zp) from ?_]
          unfold zVbd
          (repeat' split) <;> first | rfl | omega | contradiction | (exfalso; omega) | (exfalso; rename_i y_x; exact absurd y_x.2.1 (by assumption)) | (exfalso; rename_i y_x; exact y_x ⟨by omega, by assumption, by omega⟩)
        · refine wp_run (k := 2) (pc1 := 38) (l1 := [(0, .ref 55), (1, .int (iN (zp))), (2, .int (iN (zv)))]) (st1 := [.int (iN (zv))]) (kr1 := (78, 76)) (h1 := zg1) rfl ?_
          refine wp_ret (rv := some (.int (iN (zv)))) rfl ?_
          refine ⟨?_, q_R1⟩
          rw [show zVbd N G S T zp = zv from ?_]
          unfold zVbd
          (repeat' split) <;> first | rfl | omega | contradiction | (exfalso; omega) | (exfalso; rename_i y_x; exact absurd y_x.2.1 (by assumption)) | (exfalso; rename_i y_x; exact y_x ⟨by omega, by assumption, by omega⟩)
    · refine wp_run (k := 1) (pc1 := 14) (l1 := [(0, .ref 55), (1, .int (iN (zp)))]) (st1 := [.int (iN (-1))]) (kr1 := (78, 76)) (h1 := zh) rfl ?_
      refine wp_ret (rv := some (.int (iN (-1)))) rfl ?_
      refine ⟨?_, zRS_0 _⟩
      rw [show zVbd N G S T zp = -1 from ?_]
      unfold zVbd
      (repeat' split) <;> first | rfl | omega | contradiction | (exfalso; omega) | (exfalso; rename_i y_x; exact absurd y_x.2.1 (by assumption)) | (exfalso; rename_i y_x; exact y_x ⟨by omega, by assumption, by omega⟩)
set_option maxRecDepth 20000 in
set_option maxHeartbeats 4000000 in
theorem jR_rule (zd : Nat) (q_d : 6 ≤ zd) {zh : am_H} {N : Int} {G : Int → Int → Int} {S T : Int} {zr zn zw : Int} (q_nm : zMm (zh.1 55) (zh.1 56) N G S T) (q_g : zGk N G S T) (q_zrr : -2147483648 ≤ zr ∧ zr < 2147483648) (q_znr : -2147483648 ≤ zn ∧ zn < 2147483648) (q_zwr : -2147483648 ≤ zw ∧ zw < 2147483648) : am_wp zd am_m_Model_rule 0 [(0, .ref 55), (1, .int (iN (zr))), (2, .int (iN (zn))), (3, .int (iN (zw)))] [] (78, 76) zh (78, 76) (fun rv h' => rv = some (.int (zVru N G zr zn zw)) ∧ zRS zh h') := by
  obtain ⟨zd, rfl⟩ : ∃ y_e, zd = y_e + 6 := ⟨zd - 6, by omega⟩
  have q_N := q_g.1
  refine wp_run (k := 4) (pc1 := 6) (l1 := [(0, .ref 55), (1, .int (iN (zr))), (2, .int (iN (zn))), (3, .int (iN (zw)))]) (st1 := [.long ((3 : Int64)), .long (Int64.ofNat 0), .long ((iN (zr)).toInt64)]) (kr1 := (78, 76)) (h1 := zh) rfl ?_
  refine wp_call (md1 := am_m_Model_isIn) (As := [.long ((iN (zr)).toInt64), .long (Int64.ofNat 0), .long ((3 : Int64))]) (rest := []) (kr1 := (78, 76)) rfl (jt_isIn _ (by omega) (i2l_i (z := zr) (by omega)) (show (Int64.ofNat 0 : Int64).toInt = 0 by decide) (show ((3 : Int64) : Int64).toInt = 3 by decide)) ?_
  rintro _ _ ⟨rfl, rfl⟩
  refine wp_eqb rfl (fun b_9 => ?_) (fun b_9 => ?_)
  · refine wp_run (k := 1) (pc1 := 42) (l1 := [(0, .ref 55), (1, .int (iN (zr))), (2, .int (iN (zn))), (3, .int (iN (zw)))]) (st1 := [.int (iN (-1))]) (kr1 := (78, 76)) (h1 := zh) rfl ?_
    refine wp_ret (rv := some (.int (iN (-1)))) rfl ?_
    refine ⟨?_, zRS_0 _⟩
    rw [show zVru N G zr zn zw = iN (-1) from ?_]
    unfold zVru
    (repeat' split) <;> first | rfl | omega | contradiction | (exfalso; omega) | (exfalso; rename_i y_x; exact absurd y_x.2.1 (by assumption)) | (exfalso; rename_i y_x; exact y_x ⟨by omega, by assumption, by omega⟩)
  · refine wp_run (k := 2) (pc1 := 14) (l1 := [(0, .ref 55), (1, .int (iN (zr))), (2, .int (iN (zn))), (3, .int (iN (zw)))]) (st1 := [.int (iN (1)), .int (iN (zr))]) (kr1 := (78, 76)) (h1 := zh) rfl ?_
    refine wp_ne (a := zr) (b := 1) rfl (by omega) (by omega) (fun b_14 => ?_) (fun b_14 => ?_)
    · refine wp_run (k := 4) (pc1 := 35) (l1 := [(0, .ref 55), (1, .int (iN (zr))), (2, .int (iN (zn))), (3, .int (iN (zw)))]) (st1 := [.long ((2 : Int64)), .long (Int64.ofNat 0), .long ((iN (zw)).toInt64)]) (kr1 := (78, 76)) (h1 := zh) rfl ?_
      refine wp_call (md1 := am_m_Model_isIn) (As := [.long ((iN (zw)).toInt64), .long (Int64.ofNat 0), .long ((2 : Int64))]) (rest := []) (kr1 := (78, 76)) rfl (jt_isIn _ (by omega) (i2l_i (z := zw) (by omega)) (show (Int64.ofNat 0 : Int64).toInt = 0 by decide) (show ((2 : Int64) : Int64).toInt = 2 by decide)) ?_
      rintro _ _ ⟨rfl, rfl⟩
      refine wp_neb rfl (fun b_38 => ?_) (fun b_38 => ?_)
      · refine wp_run (k := 3) (pc1 := 46) (l1 := [(0, .ref 55), (1, .int (iN (zr))), (2, .int (iN (zn))), (3, .int (iN (zw)))]) (st1 := [.int (iN (zn)), .int (iN (zr)), .ref 55]) (kr1 := (78, 76)) (h1 := zh) rfl ?_
        refine wp_call (md1 := am_m_Model_rules) (As := [.ref 55, .int (iN (zr)), .int (iN (zn))]) (rest := []) (kr1 := (78, 76)) rfl (jm_rules (zr := zr) (zn := zn) _ (by omega) q_nm q_g (by omega) (by omega)) ?_
        rintro _ zg1 ⟨rfl, q_f1, q_s1, q_c1, q_l1, q_be1⟩
        have q_R1 : zRS zh zg1 := zRS_s q_f1 (fun c y => by simp only [List.mem_cons, List.not_mem_nil, or_false] at y ⊢; omega) q_s1 (by decide)
        refine wp_run (k := 1) (pc1 := 50) (l1 := [(0, .ref 55), (1, .int (iN (zr))), (2, .int (iN (zn))), (3, .int (iN (zw)))]) (st1 := [.int (iN (zw))]) (kr1 := (78, 76)) (h1 := zg1) rfl ?_
        refine wp_ne0 (a := zw) rfl (by omega) (fun b_50 => ?_) (fun b_50 => ?_)
        · refine wp_run (k := 2) (pc1 := 62) (l1 := [(0, .ref 55), (1, .int (iN (zr))), (2, .int (iN (zn))), (3, .int (iN (zw)))]) (st1 := [.int (iN (1)), .int (iN (zw))]) (kr1 := (78, 76)) (h1 := zg1) rfl ?_
          refine wp_ne (a := zw) (b := 1) rfl (by omega) (by omega) (fun b_62 => ?_) (fun b_62 => ?_)
          · refine wp_run (k := 2) (pc1 := 76) (l1 := [(0, .ref 55), (1, .int (iN (zr))), (2, .int (iN (zn))), (3, .int (iN (zw)))]) (st1 := [.int (zg1.1 55 28)]) (kr1 := (78, 76)) (h1 := zg1) rfl ?_
            refine wp_ret (rv := some (.int (zg1.1 55 28))) rfl ?_
            refine ⟨?_, q_R1⟩
            rw [q_be1]
            unfold zVru
            rw [if_neg (by omega), if_neg (by omega), if_neg (by omega)]
          · refine wp_run (k := 3) (pc1 := 76) (l1 := [(0, .ref 55), (1, .int (iN (zr))), (2, .int (iN (zn))), (3, .int (iN (zw)))]) (st1 := [.int (iN ((zRu N G zr zn).2.1))]) (kr1 := (78, 76)) (h1 := zg1) (Eq.trans (b := (some (76, [(0, .ref 55), (1, .int (iN (zr))), (2, .int (iN (zn))), (3, .int (iN (zw)))], [.int (zg1.1 55 27)], (78, 76), zg1) : Option am_C)) rfl (by simp only [q_l1, Int32.ofInt_add, Int32.ofInt_sub, Int32.ofInt_mul, Int32.ofInt_neg])) ?_
            refine wp_ret (rv := some (.int (iN ((zRu N G zr zn).2.1)))) rfl ?_
            refine ⟨?_, q_R1⟩
            rw [show zVru N G zr zn zw = iN ((zRu N G zr zn).2.1) from ?_]
            unfold zVru
            (repeat' split) <;> first | rfl | omega | contradiction | (exfalso; omega) | (exfalso; rename_i y_x; exact absurd y_x.2.1 (by assumption)) | (exfalso; rename_i y_x; exact y_x ⟨by omega, by assumption, by omega⟩)
        · refine wp_run (k := 3) (pc1 := 76) (l1 := [(0, .ref 55), (1, .int (iN (zr))), (2, .int (iN (zn))), (3, .int (iN (zw)))]) (st1 := [.int (iN ((zRu N G zr zn).1))]) (kr1 := (78, 76)) (h1 := zg1) (Eq.trans (b := (some (76, [(0, .ref 55), (1, .int (iN (zr))), (2, .int (iN (zn))), (3, .int (iN (zw)))], [.int (zg1.1 55 26)], (78, 76), zg1) : Option am_C)) rfl (by simp only [q_c1, Int32.ofInt_add, Int32.ofInt_sub, Int32.ofInt_mul, Int32.ofInt_neg])) ?_
          refine wp_ret (rv := some (.int (iN ((zRu N G zr zn).1)))) rfl ?_
          refine ⟨?_, q_R1⟩
          rw [show zVru N G zr zn zw = iN ((zRu N G zr zn).1) from ?_]
          unfold zVru
          (repeat' split) <;> first | rfl | omega | contradiction | (exfalso; omega) | (exfalso; rename_i y_x; exact absurd y_x.2.1 (by assumption)) | (exfalso; rename_i y_x; exact y_x ⟨by omega, by assumption, by omega⟩)
      · refine wp_run (k := 1) (pc1 := 42) (l1 := [(0, .ref 55), (1, .int (iN (zr))), (2, .int (iN (zn))), (3, .int (iN (zw)))]) (st1 := [.int (iN (-1))]) (kr1 := (78, 76)) (h1 := zh) rfl ?_
        refine wp_ret (rv := some (.int (iN (-1)))) rfl ?_
        refine ⟨?_, zRS_0 _⟩
        rw [show zVru N G zr zn zw = iN (-1) from ?_]
        unfold zVru
        (repeat' split) <;> first | rfl | omega | contradiction | (exfalso; omega) | (exfalso; rename_i y_x; exact absurd y_x.2.1 (by assumption)) | (exfalso; rename_i y_x; exact y_x ⟨by omega, by assumption, by omega⟩)
    · refine wp_run (k := 4) (pc1 := 23) (l1 := [(0, .ref 55), (1, .int (iN (zr))), (2, .int (iN (zn))), (3, .int (iN (zw)))]) (st1 := [.long ((16 : Int64)), .long (Int64.ofNat 1), .long ((iN (zn)).toInt64)]) (kr1 := (78, 76)) (h1 := zh) rfl ?_
      refine wp_call (md1 := am_m_Model_isIn) (As := [.long ((iN (zn)).toInt64), .long (Int64.ofNat 1), .long ((16 : Int64))]) (rest := []) (kr1 := (78, 76)) rfl (jt_isIn _ (by omega) (i2l_i (z := zn) (by omega)) (show (Int64.ofNat 1 : Int64).toInt = 1 by decide) (show ((16 : Int64) : Int64).toInt = 16 by decide)) ?_
      rintro _ _ ⟨rfl, rfl⟩
      refine wp_eqb rfl (fun b_26 => ?_) (fun b_26 => ?_)
      · refine wp_run (k := 1) (pc1 := 42) (l1 := [(0, .ref 55), (1, .int (iN (zr))), (2, .int (iN (zn))), (3, .int (iN (zw)))]) (st1 := [.int (iN (-1))]) (kr1 := (78, 76)) (h1 := zh) rfl ?_
        refine wp_ret (rv := some (.int (iN (-1)))) rfl ?_
        refine ⟨?_, zRS_0 _⟩
        rw [show zVru N G zr zn zw = iN (-1) from ?_]
        unfold zVru
        (repeat' split) <;> first | rfl | omega | contradiction | (exfalso; omega) | (exfalso; rename_i y_x; exact absurd y_x.2.1 (by assumption)) | (exfalso; rename_i y_x; exact y_x ⟨by omega, by assumption, by omega⟩)
      · refine wp_run (k := 4) (pc1 := 35) (l1 := [(0, .ref 55), (1, .int (iN (zr))), (2, .int (iN (zn))), (3, .int (iN (zw)))]) (st1 := [.long ((2 : Int64)), .long (Int64.ofNat 0), .long ((iN (zw)).toInt64)]) (kr1 := (78, 76)) (h1 := zh) rfl ?_
        refine wp_call (md1 := am_m_Model_isIn) (As := [.long ((iN (zw)).toInt64), .long (Int64.ofNat 0), .long ((2 : Int64))]) (rest := []) (kr1 := (78, 76)) rfl (jt_isIn _ (by omega) (i2l_i (z := zw) (by omega)) (show (Int64.ofNat 0 : Int64).toInt = 0 by decide) (show ((2 : Int64) : Int64).toInt = 2 by decide)) ?_
        rintro _ _ ⟨rfl, rfl⟩
        refine wp_neb rfl (fun b_38 => ?_) (fun b_38 => ?_)
        · refine wp_run (k := 3) (pc1 := 46) (l1 := [(0, .ref 55), (1, .int (iN (zr))), (2, .int (iN (zn))), (3, .int (iN (zw)))]) (st1 := [.int (iN (zn)), .int (iN (zr)), .ref 55]) (kr1 := (78, 76)) (h1 := zh) rfl ?_
          refine wp_call (md1 := am_m_Model_rules) (As := [.ref 55, .int (iN (zr)), .int (iN (zn))]) (rest := []) (kr1 := (78, 76)) rfl (jm_rules (zr := zr) (zn := zn) _ (by omega) q_nm q_g (by omega) (by omega)) ?_
          rintro _ zg1 ⟨rfl, q_f1, q_s1, q_c1, q_l1, q_be1⟩
          have q_R1 : zRS zh zg1 := zRS_s q_f1 (fun c y => by simp only [List.mem_cons, List.not_mem_nil, or_false] at y ⊢; omega) q_s1 (by decide)
          refine wp_run (k := 1) (pc1 := 50) (l1 := [(0, .ref 55), (1, .int (iN (zr))), (2, .int (iN (zn))), (3, .int (iN (zw)))]) (st1 := [.int (iN (zw))]) (kr1 := (78, 76)) (h1 := zg1) rfl ?_
          refine wp_ne0 (a := zw) rfl (by omega) (fun b_50 => ?_) (fun b_50 => ?_)
          · refine wp_run (k := 2) (pc1 := 62) (l1 := [(0, .ref 55), (1, .int (iN (zr))), (2, .int (iN (zn))), (3, .int (iN (zw)))]) (st1 := [.int (iN (1)), .int (iN (zw))]) (kr1 := (78, 76)) (h1 := zg1) rfl ?_
            refine wp_ne (a := zw) (b := 1) rfl (by omega) (by omega) (fun b_62 => ?_) (fun b_62 => ?_)
            · refine wp_run (k := 2) (pc1 := 76) (l1 := [(0, .ref 55), (1, .int (iN (zr))), (2, .int (iN (zn))), (3, .int (iN (zw)))]) (st1 := [.int (zg1.1 55 28)]) (kr1 := (78, 76)) (h1 := zg1) rfl ?_
              refine wp_ret (rv := some (.int (zg1.1 55 28))) rfl ?_
              refine ⟨?_, q_R1⟩
              rw [q_be1]
              unfold zVru
              rw [if_neg (by omega), if_neg (by omega), if_neg (by omega)]
            · refine wp_run (k := 3) (pc1 := 76) (l1 := [(0, .ref 55), (1, .int (iN (zr))), (2, .int (iN (zn))), (3, .int (iN (zw)))]) (st1 := [.int (iN ((zRu N G zr zn).2.1))]) (kr1 := (78, 76)) (h1 := zg1) (Eq.trans (b := (some (76, [(0, .ref 55), (1, .int (iN (zr))), (2, .int (iN (zn))), (3, .int (iN (zw)))], [.int (zg1.1 55 27)], (78, 76), zg1) : Option am_C)) rfl (by simp only [q_l1, Int32.ofInt_add, Int32.ofInt_sub, Int32.ofInt_mul, Int32.ofInt_neg])) ?_
              refine wp_ret (rv := some (.int (iN ((zRu N G zr zn).2.1)))) rfl ?_
              refine ⟨?_, q_R1⟩
              rw [show zVru N G zr zn zw = iN ((zRu N G zr zn).2.1) from ?_]
              unfold zVru
              (repeat' split) <;> first | rfl | omega | contradiction | (exfalso; omega) | (exfalso; rename_i y_x; exact absurd y_x.2.1 (by assumption)) | (exfalso; rename_i y_x; exact y_x ⟨by omega, by assumption, by omega⟩)
          · refine wp_run (k := 3) (pc1 := 76) (l1 := [(0, .ref 55), (1, .int (iN (zr))), (2, .int (iN (zn))), (3, .int (iN (zw)))]) (st1 := [.int (iN ((zRu N G zr zn).1))]) (kr1 := (78, 76)) (h1 := zg1) (Eq.trans (b := (some (76, [(0, .ref 55), (1, .int (iN (zr))), (2, .int (iN (zn))), (3, .int (iN (zw)))], [.int (zg1.1 55 26)], (78, 76), zg1) : Option am_C)) rfl (by simp only [q_c1, Int32.ofInt_add, Int32.ofInt_sub, Int32.ofInt_mul, Int32.ofInt_neg])) ?_
            refine wp_ret (rv := some (.int (iN ((zRu N G zr zn).1)))) rfl ?_
            refine ⟨?_, q_R1⟩
            rw [show zVru N G zr zn zw = iN ((zRu N G zr zn).1) from ?_]
            unfold zVru
            (repeat' split) <;> first | rfl | omega | contradiction | (exfalso; omega) | (exfalso; rename_i y_x; exact absurd y_x.2.1 (by assumption)) | (exfalso; rename_i y_x; exact y_x ⟨by omega, by assumption, by omega⟩)
        · refine wp_run (k := 1) (pc1 := 42) (l1 := [(0, .ref 55), (1, .int (iN (zr))), (2, .int (iN (zn))), (3, .int (iN (zw)))]) (st1 := [.int (iN (-1))]) (kr1 := (78, 76)) (h1 := zh) rfl ?_
          refine wp_ret (rv := some (.int (iN (-1)))) rfl ?_
          refine ⟨?_, zRS_0 _⟩
          rw [show zVru N G zr zn zw = iN (-1) from ?_]
          unfold zVru
          (repeat' split) <;> first | rfl | omega | contradiction | (exfalso; omega) | (exfalso; rename_i y_x; exact absurd y_x.2.1 (by assumption)) | (exfalso; rename_i y_x; exact y_x ⟨by omega, by assumption, by omega⟩)
set_option maxRecDepth 20000 in
set_option maxHeartbeats 4000000 in
theorem jR_judged (zd : Nat) (q_d : 4 ≤ zd) {zh : am_H} {N : Int} {G : Int → Int → Int} {S T : Int} {B : Int → Int} {zw : Int} (q_nm : zMm (zh.1 55) (zh.1 56) N G S T) (q_g : zGk N G S T) (q_hd : zHd (zh.1 57) B N) (q_hk : zHk N B) (q_zwr : -2147483648 ≤ zw ∧ zw < 2147483648) : am_wp zd am_m_Model_judged 0 [(0, .ref 55), (1, .int (iN (zw)))] [] (78, 76) zh (78, 76) (fun rv h' => rv = some (.int (iN (zVju N G S T B zw))) ∧ zh = h') := by
  obtain ⟨zd, rfl⟩ : ∃ y_e, zd = y_e + 4 := ⟨zd - 4, by omega⟩
  have q_N := q_g.1
  refine wp_run (k := 4) (pc1 := 6) (l1 := [(0, .ref 55), (1, .int (iN (zw)))]) (st1 := [.long ((2 : Int64)), .long (Int64.ofNat 0), .long ((iN (zw)).toInt64)]) (kr1 := (78, 76)) (h1 := zh) rfl ?_
  refine wp_call (md1 := am_m_Model_isIn) (As := [.long ((iN (zw)).toInt64), .long (Int64.ofNat 0), .long ((2 : Int64))]) (rest := []) (kr1 := (78, 76)) rfl (jt_isIn _ (by omega) (i2l_i (z := zw) (by omega)) (show (Int64.ofNat 0 : Int64).toInt = 0 by decide) (show ((2 : Int64) : Int64).toInt = 2 by decide)) ?_
  rintro _ _ ⟨rfl, rfl⟩
  refine wp_neb rfl (fun b_9 => ?_) (fun b_9 => ?_)
  · refine wp_run (k := 1) (pc1 := 17) (l1 := [(0, .ref 55), (1, .int (iN (zw)))]) (st1 := [.int (iN (zw))]) (kr1 := (78, 76)) (h1 := zh) rfl ?_
    refine wp_ne0 (a := zw) rfl (by omega) (fun b_17 => ?_) (fun b_17 => ?_)
    · refine wp_run (k := 2) (pc1 := 29) (l1 := [(0, .ref 55), (1, .int (iN (zw)))]) (st1 := [.int (iN (1)), .int (iN (zw))]) (kr1 := (78, 76)) (h1 := zh) rfl ?_
      refine wp_ne (a := zw) (b := 1) rfl (by omega) (by omega) (fun b_29 => ?_) (fun b_29 => ?_)
      · refine wp_run (k := 7) (pc1 := 50) (l1 := [(0, .ref 55), (1, .int (iN (zw)))]) (st1 := [.int (iN ((N) - (1))), .ref 57, .ref 55]) (kr1 := (78, 76)) (h1 := zh) (Eq.trans (b := (some (50, [(0, .ref 55), (1, .int (iN (zw)))], [.int ((zh.1 55 0) - (iN (1))), .ref 57, .ref 55], (78, 76), zh) : Option am_C)) rfl (by simp only [q_nm.1, Int32.ofInt_add, Int32.ofInt_sub, Int32.ofInt_mul, Int32.ofInt_neg])) ?_
        refine wp_call (md1 := am_m_Model_stock) (As := [.ref 55, .ref 57, .int (iN ((N) - (1)))]) (rest := []) (kr1 := (78, 76)) rfl (jm_stock_57 _ (by omega) q_nm q_g q_hd (zp := (N) - (1)) (by omega)) ?_
        rintro _ _ ⟨rfl, rfl⟩
        refine wp_ret (rv := some (.int (iN (zSt G B ((N) - (1)))))) rfl ?_
        refine ⟨?_, rfl⟩
        rw [show zVju N G S T B zw = zSt G B ((N) - (1)) from ?_]
        unfold zVju
        (repeat' split) <;> first | rfl | omega | contradiction | (exfalso; omega) | (exfalso; rename_i y_x; exact absurd y_x.2.1 (by assumption)) | (exfalso; rename_i y_x; exact y_x ⟨by omega, by assumption, by omega⟩)
      · refine wp_run (k := 1) (pc1 := 33) (l1 := [(0, .ref 55), (1, .int (iN (zw)))]) (st1 := [.ref 55]) (kr1 := (78, 76)) (h1 := zh) rfl ?_
        refine wp_call (md1 := am_m_Model_wrong) (As := [.ref 55]) (rest := []) (kr1 := (78, 76)) rfl (jm_wrong _ (by omega) q_nm q_g q_hd q_hk) ?_
        rintro _ _ ⟨zv, rfl, q_v, rfl⟩
        rw [zWv_e q_v]
        refine wp_run (k := 1) (pc1 := 53) (l1 := [(0, .ref 55), (1, .int (iN (zw)))]) (st1 := [.int (iN (zWv N (zWr N G S T B)))]) (kr1 := (78, 76)) (h1 := zh) rfl ?_
        refine wp_ret (rv := some (.int (iN (zWv N (zWr N G S T B))))) rfl ?_
        refine ⟨?_, rfl⟩
        rw [show zVju N G S T B zw = zWv N (zWr N G S T B) from ?_]
        unfold zVju
        (repeat' split) <;> first | rfl | omega | contradiction | (exfalso; omega) | (exfalso; rename_i y_x; exact absurd y_x.2.1 (by assumption)) | (exfalso; rename_i y_x; exact y_x ⟨by omega, by assumption, by omega⟩)
    · refine wp_run (k := 1) (pc1 := 21) (l1 := [(0, .ref 55), (1, .int (iN (zw)))]) (st1 := [.ref 55]) (kr1 := (78, 76)) (h1 := zh) rfl ?_
      refine wp_call (md1 := am_m_Model_handCost) (As := [.ref 55]) (rest := []) (kr1 := (78, 76)) rfl (jm_handCost _ (by omega) q_nm q_g q_hd q_hk) ?_
      rintro _ _ ⟨rfl, rfl⟩
      refine wp_run (k := 1) (pc1 := 53) (l1 := [(0, .ref 55), (1, .int (iN (zw)))]) (st1 := [.int (iN (zHi G B N))]) (kr1 := (78, 76)) (h1 := zh) rfl ?_
      refine wp_ret (rv := some (.int (iN (zHi G B N)))) rfl ?_
      refine ⟨?_, rfl⟩
      rw [show zVju N G S T B zw = zHi G B N from ?_]
      unfold zVju
      (repeat' split) <;> first | rfl | omega | contradiction | (exfalso; omega) | (exfalso; rename_i y_x; exact absurd y_x.2.1 (by assumption)) | (exfalso; rename_i y_x; exact y_x ⟨by omega, by assumption, by omega⟩)
  · refine wp_run (k := 1) (pc1 := 15) (l1 := [(0, .ref 55), (1, .int (iN (zw)))]) (st1 := [.int (iN (-10000))]) (kr1 := (78, 76)) (h1 := zh) rfl ?_
    refine wp_ret (rv := some (.int (iN (-10000)))) rfl ?_
    refine ⟨?_, rfl⟩
    rw [show zVju N G S T B zw = -10000 from ?_]
    unfold zVju
    (repeat' split) <;> first | rfl | omega | contradiction | (exfalso; omega) | (exfalso; rename_i y_x; exact absurd y_x.2.1 (by assumption)) | (exfalso; rename_i y_x; exact y_x ⟨by omega, by assumption, by omega⟩)
set_option maxRecDepth 20000 in
set_option maxHeartbeats 4000000 in
theorem jR_count (zd : Nat) (q_d : 3 ≤ zd) {zh : am_H} {N : Int} {G : Int → Int → Int} {S T : Int} {zl zu zv zw : Int} (q_nm : zMm (zh.1 55) (zh.1 56) N G S T) (q_g : zGk N G S T) (q_l : zh.1 55 7 = iN zl) (q_u : zh.1 55 4 = iN zu) (q_v : zh.1 55 5 = iN zv) (q_zwr : -2147483648 ≤ zw ∧ zw < 2147483648) : am_wp zd am_m_Model_count 0 [(0, .ref 55), (1, .int (iN (zw)))] [] (78, 76) zh (78, 76) (fun rv h' => rv = some (.int (iN (zVcnt N G S T zl zu zv zw))) ∧ zh = h') := by
  obtain ⟨zd, rfl⟩ : ∃ y_e, zd = y_e + 3 := ⟨zd - 3, by omega⟩
  have q_N := q_g.1
  refine wp_run (k := 1) (pc1 := 1) (l1 := [(0, .ref 55), (1, .int (iN (zw)))]) (st1 := [.int (iN (zw))]) (kr1 := (78, 76)) (h1 := zh) rfl ?_
  rcases (show zw = 0 ∨ zw = 1 ∨ zw = 2 ∨ zw = 3 ∨ zw = 4 ∨ zw = 5 ∨ zw = 6 ∨ (zw < 0 ∨ 6 < zw) by omega) with y_sw | y_sw | y_sw | y_sw | y_sw | y_sw | y_sw | y_sw
  · refine wp_swc (b := 0) (tg := 44) y_sw rfl (by decide) ?_
    refine wp_run (k := 2) (pc1 := 48) (l1 := [(0, .ref 55), (1, .int (iN (zw)))]) (st1 := [.int (iN (N))]) (kr1 := (78, 76)) (h1 := zh) (Eq.trans (b := (some (48, [(0, .ref 55), (1, .int (iN (zw)))], [.int (zh.1 55 0)], (78, 76), zh) : Option am_C)) rfl (by simp only [q_nm.1, Int32.ofInt_add, Int32.ofInt_sub, Int32.ofInt_mul, Int32.ofInt_neg])) ?_
    refine wp_ret (rv := some (.int (iN (N)))) rfl ?_
    refine ⟨?_, rfl⟩
    rw [show zVcnt N G S T zl zu zv zw = N from ?_]
    unfold zVcnt
    (repeat' split) <;> first | rfl | omega | contradiction | (exfalso; omega) | (exfalso; rename_i y_x; exact absurd y_x.2.1 (by assumption)) | (exfalso; rename_i y_x; exact y_x ⟨by omega, by assumption, by omega⟩)
  · refine wp_swc (b := 1) (tg := 49) y_sw rfl (by decide) ?_
    refine wp_run (k := 6) (pc1 := 57) (l1 := [(0, .ref 55), (1, .int (iN (zw)))]) (st1 := [.int (iN ((N) - (1))), .int (iN (0)), .ref 55]) (kr1 := (78, 76)) (h1 := zh) (Eq.trans (b := (some (57, [(0, .ref 55), (1, .int (iN (zw)))], [.int ((zh.1 55 0) - (iN (1))), .int (iN (0)), .ref 55], (78, 76), zh) : Option am_C)) rfl (by simp only [q_nm.1, Int32.ofInt_add, Int32.ofInt_sub, Int32.ofInt_mul, Int32.ofInt_neg])) ?_
    refine wp_call (md1 := am_m_Model_demand) (As := [.ref 55, .int (iN (0)), .int (iN ((N) - (1)))]) (rest := []) (kr1 := (78, 76)) rfl (jm_demand _ (by omega) q_nm q_g (za := 0) (zb := (N) - (1)) (by omega)) ?_
    rintro _ _ ⟨rfl, rfl⟩
    refine wp_ret (rv := some (.int (iN (zD G (0) ((N) - (1)))))) rfl ?_
    refine ⟨?_, rfl⟩
    rw [show zVcnt N G S T zl zu zv zw = zD G (0) ((N) - (1)) from ?_]
    unfold zVcnt
    (repeat' split) <;> first | rfl | omega | contradiction | (exfalso; omega) | (exfalso; rename_i y_x; exact absurd y_x.2.1 (by assumption)) | (exfalso; rename_i y_x; exact y_x ⟨by omega, by assumption, by omega⟩)
  · refine wp_swc (b := 2) (tg := 61) y_sw rfl (by decide) ?_
    refine wp_run (k := 2) (pc1 := 65) (l1 := [(0, .ref 55), (1, .int (iN (zw)))]) (st1 := [.int (iN (zl))]) (kr1 := (78, 76)) (h1 := zh) (Eq.trans (b := (some (65, [(0, .ref 55), (1, .int (iN (zw)))], [.int (zh.1 55 7)], (78, 76), zh) : Option am_C)) rfl (by simp only [q_l, Int32.ofInt_add, Int32.ofInt_sub, Int32.ofInt_mul, Int32.ofInt_neg])) ?_
    refine wp_ret (rv := some (.int (iN (zl)))) rfl ?_
    refine ⟨?_, rfl⟩
    rw [show zVcnt N G S T zl zu zv zw = zl from ?_]
    unfold zVcnt
    (repeat' split) <;> first | rfl | omega | contradiction | (exfalso; omega) | (exfalso; rename_i y_x; exact absurd y_x.2.1 (by assumption)) | (exfalso; rename_i y_x; exact y_x ⟨by omega, by assumption, by omega⟩)
  · refine wp_swc (b := 3) (tg := 66) y_sw rfl (by decide) ?_
    refine wp_run (k := 2) (pc1 := 70) (l1 := [(0, .ref 55), (1, .int (iN (zw)))]) (st1 := [.int (iN (zu))]) (kr1 := (78, 76)) (h1 := zh) (Eq.trans (b := (some (70, [(0, .ref 55), (1, .int (iN (zw)))], [.int (zh.1 55 4)], (78, 76), zh) : Option am_C)) rfl (by simp only [q_u, Int32.ofInt_add, Int32.ofInt_sub, Int32.ofInt_mul, Int32.ofInt_neg])) ?_
    refine wp_ret (rv := some (.int (iN (zu)))) rfl ?_
    refine ⟨?_, rfl⟩
    rw [show zVcnt N G S T zl zu zv zw = zu from ?_]
    unfold zVcnt
    (repeat' split) <;> first | rfl | omega | contradiction | (exfalso; omega) | (exfalso; rename_i y_x; exact absurd y_x.2.1 (by assumption)) | (exfalso; rename_i y_x; exact y_x ⟨by omega, by assumption, by omega⟩)
  · refine wp_swc (b := 4) (tg := 71) y_sw rfl (by decide) ?_
    refine wp_run (k := 5) (pc1 := 80) (l1 := [(0, .ref 55), (1, .int (iN (zw)))]) (st1 := [.int (iN ((zv) - (zu)))]) (kr1 := (78, 76)) (h1 := zh) (Eq.trans (b := (some (80, [(0, .ref 55), (1, .int (iN (zw)))], [.int ((zh.1 55 5) - (zh.1 55 4))], (78, 76), zh) : Option am_C)) rfl (by simp only [q_v, q_u, Int32.ofInt_add, Int32.ofInt_sub, Int32.ofInt_mul, Int32.ofInt_neg])) ?_
    refine wp_ret (rv := some (.int (iN ((zv) - (zu))))) rfl ?_
    refine ⟨?_, rfl⟩
    rw [show zVcnt N G S T zl zu zv zw = (zv) - (zu) from ?_]
    unfold zVcnt
    (repeat' split) <;> first | rfl | omega | contradiction | (exfalso; omega) | (exfalso; rename_i y_x; exact absurd y_x.2.1 (by assumption)) | (exfalso; rename_i y_x; exact y_x ⟨by omega, by assumption, by omega⟩)
  · refine wp_swc (b := 5) (tg := 81) y_sw rfl (by decide) ?_
    refine wp_run (k := 3) (pc1 := 87) (l1 := [(0, .ref 55), (1, .int (iN (zw)))]) (st1 := [.int (iN (96)), .ref 56]) (kr1 := (78, 76)) (h1 := zh) rfl ?_
    refine wp_iald (f := zh.1 56) (z := 96) (j := 96) (n := 98) (v := iN S) rfl rfl (by omega) (by omega) (by decide) (q_nm.2.2.1) ?_
    refine wp_ret (rv := some (.int (iN S))) rfl ?_
    refine ⟨?_, rfl⟩
    rw [show zVcnt N G S T zl zu zv zw = S from ?_]
    unfold zVcnt
    (repeat' split) <;> first | rfl | omega | contradiction | (exfalso; omega) | (exfalso; rename_i y_x; exact absurd y_x.2.1 (by assumption)) | (exfalso; rename_i y_x; exact y_x ⟨by omega, by assumption, by omega⟩)
  · refine wp_swc (b := 6) (tg := 89) y_sw rfl (by decide) ?_
    refine wp_run (k := 3) (pc1 := 95) (l1 := [(0, .ref 55), (1, .int (iN (zw)))]) (st1 := [.int (iN (97)), .ref 56]) (kr1 := (78, 76)) (h1 := zh) rfl ?_
    refine wp_iald (f := zh.1 56) (z := 97) (j := 97) (n := 98) (v := iN T) rfl rfl (by omega) (by omega) (by decide) (q_nm.2.2.2) ?_
    refine wp_ret (rv := some (.int (iN T))) rfl ?_
    refine ⟨?_, rfl⟩
    rw [show zVcnt N G S T zl zu zv zw = T from ?_]
    unfold zVcnt
    (repeat' split) <;> first | rfl | omega | contradiction | (exfalso; omega) | (exfalso; rename_i y_x; exact absurd y_x.2.1 (by assumption)) | (exfalso; rename_i y_x; exact y_x ⟨by omega, by assumption, by omega⟩)
  · refine wp_swd (lo := 0) (hi := 6) (tg := 97) rfl (by omega) y_sw ?_
    refine wp_run (k := 1) (pc1 := 98) (l1 := [(0, .ref 55), (1, .int (iN (zw)))]) (st1 := [.int (iN (-1))]) (kr1 := (78, 76)) (h1 := zh) rfl ?_
    refine wp_ret (rv := some (.int (iN (-1)))) rfl ?_
    refine ⟨?_, rfl⟩
    rw [show zVcnt N G S T zl zu zv zw = -1 from ?_]
    unfold zVcnt
    (repeat' split) <;> first | rfl | omega | contradiction | (exfalso; omega) | (exfalso; rename_i y_x; exact absurd y_x.2.1 (by assumption)) | (exfalso; rename_i y_x; exact y_x ⟨by omega, by assumption, by omega⟩)
set_option maxRecDepth 20000 in
set_option maxHeartbeats 4000000 in
theorem jR_print (zd : Nat) (q_d : 8 ≤ zd) {zh : am_H} {N : Int} {G : Int → Int → Int} {S T : Int} {zi : Int} (q_nm : zMm (zh.1 55) (zh.1 56) N G S T) (q_g : zGk N G S T) (q_zir : -2147483648 ≤ zi ∧ zi < 2147483648) : am_wp zd am_m_Model_print 0 [(0, .ref 55), (1, .int (iN (zi)))] [] (78, 76) zh (78, 76) (fun rv h' => rv = some (.int (iN (zVprint N G T zi))) ∧ zRS zh h') := by
  obtain ⟨zd, rfl⟩ : ∃ y_e, zd = y_e + 8 := ⟨zd - 8, by omega⟩
  have q_N := q_g.1
  refine wp_run (k := 2) (pc1 := 2) (l1 := [(0, .ref 55), (1, .int (iN (zi)))]) (st1 := [.int (iN (-1)), .int (iN (zi))]) (kr1 := (78, 76)) (h1 := zh) rfl ?_
  refine wp_ge (a := zi) (b := -1) rfl (by omega) (by omega) (fun b_2 => ?_) (fun b_2 => ?_)
  · refine wp_run (k := 1) (pc1 := 8) (l1 := [(0, .ref 55), (1, .int (iN (zi)))]) (st1 := [.ref 55]) (kr1 := (78, 76)) (h1 := zh) rfl ?_
    refine wp_call (md1 := am_m_Model_prints) (As := [.ref 55]) (rest := []) (kr1 := (78, 76)) rfl (jm_prints _ (by omega) q_nm q_g) ?_
    rintro _ zg1 ⟨rfl, q_f1, q_s1, zK, q_n1, q_p1⟩
    have q_R1 : zRS zh zg1 := zRS_s (k1 := 20) (k2 := 31) (k3 := 31) q_f1 (fun c y => by simp only [List.mem_cons, List.not_mem_nil, or_false] at y ⊢; omega) (fun zs y1 y2 _ => q_s1 zs y1 y2) (by decide)
    have y_K := zKn_e q_n1
    subst y_K
    have y_l := zTx_l q_g _ q_n1.1
    have y_K := zIsN_le q_g q_n1
    refine wp_run (k := 1) (pc1 := 12) (l1 := [(0, .ref 55), (1, .int (iN (zi)))]) (st1 := [.int (iN (zi))]) (kr1 := (78, 76)) (h1 := zg1) rfl ?_
    refine wp_ge0 (a := zi) rfl (by omega) (fun b_12 => ?_) (fun b_12 => ?_)
    · refine wp_run (k := 3) (pc1 := 27) (l1 := [(0, .ref 55), (1, .int (iN (zi)))]) (st1 := [.int (iN (((zTx G T N (zKn G T N)).length : Int))), .int (iN (zi))]) (kr1 := (78, 76)) (h1 := zg1) (Eq.trans (b := (some (27, [(0, .ref 55), (1, .int (iN (zi)))], [.int (zg1.1 55 31), .int (iN (zi))], (78, 76), zg1) : Option am_C)) rfl (by simp only [q_p1.1, Int32.ofInt_add, Int32.ofInt_sub, Int32.ofInt_mul, Int32.ofInt_neg])) ?_
      refine wp_ge (a := zi) (b := ((zTx G T N (zKn G T N)).length : Int)) rfl (by omega) (by omega) (fun b_27 => ?_) (fun b_27 => ?_)
      · refine wp_run (k := 1) (pc1 := 41) (l1 := [(0, .ref 55), (1, .int (iN (zi)))]) (st1 := [.int (iN (-2))]) (kr1 := (78, 76)) (h1 := zg1) rfl ?_
        refine wp_ret (rv := some (.int (iN (-2)))) rfl ?_
        refine ⟨?_, q_R1⟩
        rw [show zVprint N G T zi = -2 from ?_]
        unfold zVprint
        (repeat' split) <;> first | rfl | omega | contradiction | (exfalso; omega) | (exfalso; rename_i y_x; exact absurd y_x.2.1 (by assumption)) | (exfalso; rename_i y_x; exact y_x ⟨by omega, by assumption, by omega⟩)
      · refine wp_run (k := 3) (pc1 := 35) (l1 := [(0, .ref 55), (1, .int (iN (zi)))]) (st1 := [.int (iN (zi)), .ref 73]) (kr1 := (78, 76)) (h1 := zg1) rfl ?_
        refine wp_iald (f := zg1.1 73) (z := zi) (j := zi.toNat) (n := 320) (v := iN ((zTx G T N (zKn G T N)).getD zi.toNat 0)) rfl rfl (by omega) (by omega) (by decide) ((q_p1.2 _ (by omega))) ?_
        refine wp_run (k := 1) (pc1 := 41) (l1 := [(0, .ref 55), (1, .int (iN (zi)))]) (st1 := [.int (iN ((zTx G T N (zKn G T N)).getD zi.toNat 0))]) (kr1 := (78, 76)) (h1 := zg1) rfl ?_
        refine wp_ret (rv := some (.int (iN ((zTx G T N (zKn G T N)).getD zi.toNat 0)))) rfl ?_
        refine ⟨?_, q_R1⟩
        rw [show zVprint N G T zi = (zTx G T N (zKn G T N)).getD zi.toNat 0 from ?_]
        unfold zVprint
        (repeat' split) <;> first | rfl | omega | contradiction | (exfalso; omega) | (exfalso; rename_i y_x; exact absurd y_x.2.1 (by assumption)) | (exfalso; rename_i y_x; exact y_x ⟨by omega, by assumption, by omega⟩)
    · refine wp_run (k := 3) (pc1 := 41) (l1 := [(0, .ref 55), (1, .int (iN (zi)))]) (st1 := [.int (iN (((zTx G T N (zKn G T N)).length : Int)))]) (kr1 := (78, 76)) (h1 := zg1) (Eq.trans (b := (some (41, [(0, .ref 55), (1, .int (iN (zi)))], [.int (zg1.1 55 31)], (78, 76), zg1) : Option am_C)) rfl (by simp only [q_p1.1, Int32.ofInt_add, Int32.ofInt_sub, Int32.ofInt_mul, Int32.ofInt_neg])) ?_
      refine wp_ret (rv := some (.int (iN (((zTx G T N (zKn G T N)).length : Int))))) rfl ?_
      refine ⟨?_, q_R1⟩
      rw [show zVprint N G T zi = ((zTx G T N (zKn G T N)).length : Int) from ?_]
      unfold zVprint
      (repeat' split) <;> first | rfl | omega | contradiction | (exfalso; omega) | (exfalso; rename_i y_x; exact absurd y_x.2.1 (by assumption)) | (exfalso; rename_i y_x; exact y_x ⟨by omega, by assumption, by omega⟩)
  · refine wp_run (k := 1) (pc1 := 6) (l1 := [(0, .ref 55), (1, .int (iN (zi)))]) (st1 := [.int (iN (-1))]) (kr1 := (78, 76)) (h1 := zh) rfl ?_
    refine wp_ret (rv := some (.int (iN (-1)))) rfl ?_
    refine ⟨?_, zRS_0 _⟩
    rw [show zVprint N G T zi = -1 from ?_]
    unfold zVprint
    (repeat' split) <;> first | rfl | omega | contradiction | (exfalso; omega) | (exfalso; rename_i y_x; exact absurd y_x.2.1 (by assumption)) | (exfalso; rename_i y_x; exact y_x ⟨by omega, by assumption, by omega⟩)
