/-! THE CLASS's methods: the plan -/
theorem zIsN_ex {N : Int} {G : Int → Int → Int} {S T : Int} (q_g : zGk N G S T) : ∃ K : Nat, zIsN G T N K := by
  have key : ∀ k : Nat, (∀ j : Nat, j < k → zLq G T N j) ∨ ∃ K : Nat, zIsN G T N K := by
    intro k
    induction k with
    | zero => exact Or.inl (fun j y => absurd y (Nat.not_lt_zero _))
    | succ k z_ih =>
      rcases z_ih with y | y
      · by_cases y1 : zLq G T N k
        · refine Or.inl (fun j y2 => ?_)
          by_cases y3 : j = k
          · rw [y3]; exact y1
          · exact y j (by omega)
        · exact Or.inr ⟨k, y, y1⟩
      · exact Or.inr y
  rcases key 17 with y | y
  · have y1 := zLa_rg q_g 17 y
    have y2 := q_g.1
    omega
  · exact y
/-- how many lots the plan has -/
noncomputable def zKn (G : Int → Int → Int) (T N : Int) : Nat := @dite _ (∃ K : Nat, zIsN G T N K) (Classical.propDecidable _) (fun q => Classical.choose q) (fun _ => 0)
theorem zKn_is {G : Int → Int → Int} {T N : Int} {K : Nat} (q : zIsN G T N K) : zIsN G T N (zKn G T N) := by
  have y : zKn G T N = Classical.choose ⟨K, q⟩ := dif_pos ⟨K, q⟩
  rw [y]
  exact Classical.choose_spec (⟨K, q⟩ : ∃ K : Nat, zIsN G T N K)
theorem zKn_e {G : Int → Int → Int} {T N : Int} {K : Nat} (q : zIsN G T N K) : K = zKn G T N := zIsN_u q (zKn_is q)
theorem zKn_g {N : Int} {G : Int → Int → Int} {S T : Int} (q_g : zGk N G S T) : zIsN G T N (zKn G T N) := by
  obtain ⟨K, q⟩ := zIsN_ex (T := T) q_g
  exact zKn_is q
/-- what the plan makes -/
noncomputable abbrev zMB (G : Int → Int → Int) (T N : Int) : Int → Int := zMd G T N (zKn G T N)
theorem zMB_hk {N : Int} {G : Int → Int → Int} {S T : Int} (q_g : zGk N G S T) : zHk N (zMB G T N) := zMd_hk q_g _ (zKn_g q_g).1
theorem zTook_k {Pn cA1 cB1 cMd cSt : Nat} {zg : am_H} {N : Int} {G : Int → Int → Int} {T : Int} (q : zTook Pn cA1 cB1 cMd cSt zg N G T) : zIsN G T N (zKn G T N) ∧ zg.1 Pn 11 = iN (zKn G T N : Int) ∧ (∀ j : Nat, j < zKn G T N → zg.1 cA1 j = iN (zLa G T N j) ∧ zg.1 cB1 j = iN (zLb G T N j)) ∧ zHd (zg.1 cMd) (zMB G T N) 16 ∧ ∀ x : Int, 0 ≤ x → x < N → zg.1 cSt x.toNat = iN (zSt G (zMB G T N) x) := by
  obtain ⟨K, q1, q2⟩ := q
  have y := zKn_e q1
  subst y
  exact ⟨q1, q2⟩
theorem zTookM_k {zg : am_H} {N : Int} {G : Int → Int → Int} {T : Int} (q : zTookM zg N G T) : zIsN G T N (zKn G T N) ∧ zg.1 55 20 = iN (zKn G T N : Int) ∧ (∀ j : Nat, j < zKn G T N → zg.1 63 j = iN (zLa G T N j) ∧ zg.1 64 j = iN (zLb G T N j) ∧ zg.1 65 j = iN (zMk G T N j)) ∧ zHd (zg.1 66) (zMB G T N) 16 := by
  obtain ⟨K, q1, q2⟩ := q
  have y := zKn_e q1
  subst y
  exact ⟨q1, q2⟩
theorem zPlan_r {zh zg : am_H} {N : Int} {G : Int → Int → Int} {T : Int} (q_f : am_fr [9, 10, 11] zh zg) (q : zPlan_3 zh N G T) : zPlan_3 zg N G T := by
  refine ⟨zLots_f q_f (by decide) (by decide) (by decide) (by decide) q.1, zTook_f q_f (by decide) (by decide) (by decide) (by decide) (by decide) q.2.1, ?_⟩
  unfold zFwd
  rw [q_f.2 3 (by decide), q_f.2 12 (by decide), q_f.2 13 (by decide)]
  exact q.2.2
theorem zPv_r {N : Int} {G : Int → Int → Int} {S T : Int} (q_g : zGk N G S T) {n x : Int} (q_n : n ≤ N) (q_x : 0 ≤ x ∧ x ≤ n) : 0 ≤ (zPv G T n x).1 ∧ (zPv G T n x).1 ≤ 6000000 ∧ 0 ≤ (zPv G T n x).2.2 ∧ (zPv G T n x).2.2 ≤ 9999 := zPv_rg q_g q_n n.toNat (by omega) x (by omega) q_x.2
/-- the plan is reckoned anew, or nothing happened -/
def zEP (zh zg : am_H) (zs N : Int) (G : Int → Int → Int) (T : Int) : Prop := zh = zg ∨ (am_fr [3, 5, 6, 7, 8, 9, 10, 11, 12, 13, 14, 15, 16, 17] zh zg ∧ zg.1 3 1 = iN zs ∧ zPlan_3 zg N G T)
noncomputable def zVlot (N : Int) (G : Int → Int → Int) (T k w : Int) : Int := if k < -1 then -1 else if k = -1 then (zKn G T N : Int) else if w < 0 ∨ 4 < w then -1 else if k < (zKn G T N : Int) then zOf G T N k.toNat w else -2
noncomputable def zVby (N : Int) (G : Int → Int → Int) (T p w : Int) : Int := if ¬ (0 ≤ p ∧ p < N) ∨ w < 0 ∨ 1 < w then -10000 else if w = 0 then zMB G T N p else zSt G (zMB G T N) p
noncomputable def zVfwd (N : Int) (G : Int → Int → Int) (T zt w : Int) : Int := if ¬ (0 ≤ zt ∧ zt ≤ N) ∨ w < 0 ∨ 2 < w then -1 else if w = 0 then (zWd G T zt).1 else if w = 1 then (if (zWd G T zt).2 < 0 then -2 else (zWd G T zt).2) else @ite _ (0 ≤ (zWd G T zt).2 ∧ zCalm N G T ∧ zD G ((zWd G T zt).2 + 1) (zt - 1) = 0) (Classical.propDecidable _) (zWd G T zt).2 0
def zVpart (N : Int) (G : Int → Int → Int) (T a n : Int) : Int := if ¬ (0 ≤ a ∧ a ≤ N) ∨ ¬ (0 ≤ n ∧ n ≤ N) ∨ n < a then -1 else (zPv G T n a).1
noncomputable def zVprint (N : Int) (G : Int → Int → Int) (T i : Int) : Int := if i < -1 then -1 else if i = -1 then ((zTx G T N (zKn G T N)).length : Int) else if i < ((zTx G T N (zKn G T N)).length : Int) then (zTx G T N (zKn G T N)).getD i.toNat 0 else -2
set_option maxRecDepth 20000 in
set_option maxHeartbeats 4000000 in
theorem jt_planNow (zd : Nat) (q_d : 5 ≤ zd) {zh : am_H} {N : Int} {G : Int → Int → Int} {S T zs zk : Int} (q_nm : zNm (zh.1 1) (zh.1 2) N G S T) (q_g : zGk N G S T) (q_a0 : zh.1 8 0 = iN 0) (q_s : zh.1 1 2 = iN zs) (q_k : zh.1 3 1 = iN zk) (q_r : 0 ≤ zs ∧ zs < 2147483648 ∧ 0 ≤ zk ∧ zk < 2147483648) (q_old : zk = zs → zPlan_3 zh N G T) : am_wp zd am_m_Lp_planNow 0 [(0, .ref 0)] [] (78, 76) zh (78, 76) (fun rv h' => rv = some (.ref 3) ∧ am_fr [3, 5, 6, 7, 8, 9, 10, 11, 12, 13, 14, 15, 16, 17] zh h' ∧ h'.1 3 1 = iN zs ∧ zPlan_3 h' N G T) := by
  obtain ⟨zd, rfl⟩ : ∃ y_e, zd = y_e + 5 := ⟨zd - 5, by omega⟩
  have q_N := q_g.1
  refine wp_run (k := 4) (pc1 := 8) (l1 := [(0, .ref 0)]) (st1 := [.ref 1, .ref 3]) (kr1 := (78, 76)) (h1 := zh) rfl ?_
  refine wp_call (md1 := am_m_Plan_refresh) (As := [.ref 3, .ref 1]) (rest := []) (kr1 := (78, 76)) rfl (jt_refresh_3 _ (by omega) q_nm q_g q_a0 q_s q_k q_r q_old) ?_
  rintro _ zg1 ⟨rfl, q_f1, q_k1, q_pl1⟩
  refine wp_run (k := 2) (pc1 := 15) (l1 := [(0, .ref 0)]) (st1 := [.ref 3]) (kr1 := (78, 76)) (h1 := zg1) rfl ?_
  refine wp_ret (rv := some (.ref 3)) rfl ?_
  exact ⟨rfl, q_f1, q_k1, q_pl1⟩
set_option maxRecDepth 20000 in
set_option maxHeartbeats 4000000 in
theorem jL_least (zd : Nat) (q_d : 6 ≤ zd) {zh : am_H} {N : Int} {G : Int → Int → Int} {S T zs zk : Int} (q_nm : zNm (zh.1 1) (zh.1 2) N G S T) (q_g : zGk N G S T) (q_a0 : zh.1 8 0 = iN 0) (q_s : zh.1 1 2 = iN zs) (q_k : zh.1 3 1 = iN zk) (q_r : 0 ≤ zs ∧ zs < 2147483648 ∧ 0 ≤ zk ∧ zk < 2147483648) (q_old : zk = zs → zPlan_3 zh N G T) : am_wp zd am_m_Lp_least 0 [(0, .ref 0)] [] (78, 76) zh (78, 76) (fun rv h' => rv = some (.int (iN ((zPv G T N 0).1))) ∧ zEP zh h' zs N G T) := by
  obtain ⟨zd, rfl⟩ : ∃ y_e, zd = y_e + 6 := ⟨zd - 6, by omega⟩
  have q_N := q_g.1
  refine wp_run (k := 1) (pc1 := 1) (l1 := [(0, .ref 0)]) (st1 := [.ref 0]) (kr1 := (78, 76)) (h1 := zh) rfl ?_
  refine wp_call (md1 := am_m_Lp_planNow) (As := [.ref 0]) (rest := []) (kr1 := (78, 76)) rfl (jt_planNow _ (by omega) q_nm q_g q_a0 q_s q_k q_r q_old) ?_
  rintro _ zg1 ⟨rfl, q_f1, q_k1, q_pl1⟩
  have q_tk := zTook_k q_pl1.2.1
  have q_nm1 := zNm_f q_f1 q_nm (by decide) (by decide)
  have y_K := zIsN_le q_g q_tk.1
  refine wp_call (md1 := am_m_Plan_cost) (As := [.ref 3]) (rest := []) (kr1 := (78, 76)) rfl (jg_Plan_cost_3 _ (by omega) q_pl1.2.2.1) ?_
  rintro _ _ ⟨rfl, rfl⟩
  refine wp_ret (rv := some (.int (iN ((zPv G T N 0).1)))) rfl ?_
  exact ⟨rfl, Or.inr ⟨q_f1, q_k1, q_pl1⟩⟩
set_option maxRecDepth 20000 in
set_option maxHeartbeats 4000000 in
theorem jL_ways (zd : Nat) (q_d : 6 ≤ zd) {zh : am_H} {N : Int} {G : Int → Int → Int} {S T zs zk : Int} (q_nm : zNm (zh.1 1) (zh.1 2) N G S T) (q_g : zGk N G S T) (q_a0 : zh.1 8 0 = iN 0) (q_s : zh.1 1 2 = iN zs) (q_k : zh.1 3 1 = iN zk) (q_r : 0 ≤ zs ∧ zs < 2147483648 ∧ 0 ≤ zk ∧ zk < 2147483648) (q_old : zk = zs → zPlan_3 zh N G T) : am_wp zd am_m_Lp_ways 0 [(0, .ref 0)] [] (78, 76) zh (78, 76) (fun rv h' => rv = some (.int (iN ((zPv G T N 0).2.2))) ∧ zEP zh h' zs N G T) := by
  obtain ⟨zd, rfl⟩ : ∃ y_e, zd = y_e + 6 := ⟨zd - 6, by omega⟩
  have q_N := q_g.1
  refine wp_run (k := 1) (pc1 := 1) (l1 := [(0, .ref 0)]) (st1 := [.ref 0]) (kr1 := (78, 76)) (h1 := zh) rfl ?_
  refine wp_call (md1 := am_m_Lp_planNow) (As := [.ref 0]) (rest := []) (kr1 := (78, 76)) rfl (jt_planNow _ (by omega) q_nm q_g q_a0 q_s q_k q_r q_old) ?_
  rintro _ zg1 ⟨rfl, q_f1, q_k1, q_pl1⟩
  have q_tk := zTook_k q_pl1.2.1
  have q_nm1 := zNm_f q_f1 q_nm (by decide) (by decide)
  have y_K := zIsN_le q_g q_tk.1
  refine wp_call (md1 := am_m_Plan_howMany) (As := [.ref 3]) (rest := []) (kr1 := (78, 76)) rfl (jg_Plan_howMany_3 _ (by omega) q_pl1.2.2.2.1) ?_
  rintro _ _ ⟨rfl, rfl⟩
  refine wp_ret (rv := some (.int (iN ((zPv G T N 0).2.2)))) rfl ?_
  exact ⟨rfl, Or.inr ⟨q_f1, q_k1, q_pl1⟩⟩
set_option maxRecDepth 20000 in
set_option maxHeartbeats 4000000 in
theorem jL_lot (zd : Nat) (q_d : 6 ≤ zd) {zh : am_H} {N : Int} {G : Int → Int → Int} {S T zs zk : Int} {zi : Int} {zw : Int} (q_nm : zNm (zh.1 1) (zh.1 2) N G S T) (q_g : zGk N G S T) (q_a0 : zh.1 8 0 = iN 0) (q_s : zh.1 1 2 = iN zs) (q_k : zh.1 3 1 = iN zk) (q_r : 0 ≤ zs ∧ zs < 2147483648 ∧ 0 ≤ zk ∧ zk < 2147483648) (q_old : zk = zs → zPlan_3 zh N G T) (q_zir : -2147483648 ≤ zi ∧ zi < 2147483648) (q_zwr : -2147483648 ≤ zw ∧ zw < 2147483648) : am_wp zd am_m_Lp_lot 0 [(0, .ref 0), (1, .int (iN (zi))), (2, .int (iN (zw)))] [] (78, 76) zh (78, 76) (fun rv h' => rv = some (.int (iN (zVlot N G T zi zw))) ∧ zEP zh h' zs N G T) := by
  obtain ⟨zd, rfl⟩ : ∃ y_e, zd = y_e + 6 := ⟨zd - 6, by omega⟩
  have q_N := q_g.1
  refine wp_run (k := 2) (pc1 := 2) (l1 := [(0, .ref 0), (1, .int (iN (zi))), (2, .int (iN (zw)))]) (st1 := [.int (iN (-1)), .int (iN (zi))]) (kr1 := (78, 76)) (h1 := zh) rfl ?_
  refine wp_ge (a := zi) (b := -1) rfl (by omega) (by omega) (fun b_2 => ?_) (fun b_2 => ?_)
  · refine wp_run (k := 2) (pc1 := 9) (l1 := [(0, .ref 0), (1, .int (iN (zi))), (2, .int (iN (zw)))]) (st1 := [.int (iN (-1)), .int (iN (zi))]) (kr1 := (78, 76)) (h1 := zh) rfl ?_
    refine wp_ne (a := zi) (b := -1) rfl (by omega) (by omega) (fun b_9 => ?_) (fun b_9 => ?_)
    · refine wp_run (k := 1) (pc1 := 21) (l1 := [(0, .ref 0), (1, .int (iN (zi))), (2, .int (iN (zw)))]) (st1 := [.int (iN (zw))]) (kr1 := (78, 76)) (h1 := zh) rfl ?_
      refine wp_lt0 (a := zw) rfl (by omega) (fun b_21 => ?_) (fun b_21 => ?_)
      · refine wp_run (k := 1) (pc1 := 30) (l1 := [(0, .ref 0), (1, .int (iN (zi))), (2, .int (iN (zw)))]) (st1 := [.int (iN (-1))]) (kr1 := (78, 76)) (h1 := zh) rfl ?_
        refine wp_ret (rv := some (.int (iN (-1)))) rfl ?_
        refine ⟨?_, Or.inl rfl⟩
        rw [show zVlot N G T zi zw = -1 from ?_]
        unfold zVlot
        (repeat' split) <;> first | rfl | omega | contradiction | (exfalso; omega) | (exfalso; rename_i y_x; exact absurd y_x.2.1 (by assumption)) | (exfalso; rename_i y_x; exact y_x ⟨by omega, by assumption, by omega⟩)
      · refine wp_run (k := 2) (pc1 := 26) (l1 := [(0, .ref 0), (1, .int (iN (zi))), (2, .int (iN (zw)))]) (st1 := [.int (iN (4)), .int (iN (zw))]) (kr1 := (78, 76)) (h1 := zh) rfl ?_
        refine wp_le (a := zw) (b := 4) rfl (by omega) (by omega) (fun b_26 => ?_) (fun b_26 => ?_)
        · refine wp_run (k := 1) (pc1 := 32) (l1 := [(0, .ref 0), (1, .int (iN (zi))), (2, .int (iN (zw)))]) (st1 := [.ref 0]) (kr1 := (78, 76)) (h1 := zh) rfl ?_
          refine wp_call (md1 := am_m_Lp_planNow) (As := [.ref 0]) (rest := []) (kr1 := (78, 76)) rfl (jt_planNow _ (by omega) q_nm q_g q_a0 q_s q_k q_r q_old) ?_
          rintro _ zg1 ⟨rfl, q_f1, q_k1, q_pl1⟩
          have q_tk := zTook_k q_pl1.2.1
          have q_nm1 := zNm_f q_f1 q_nm (by decide) (by decide)
          have y_K := zIsN_le q_g q_tk.1
          refine wp_run (k := 3) (pc1 := 38) (l1 := [(0, .ref 0), (1, .int (iN (zi))), (2, .int (iN (zw))), (3, .ref 3)]) (st1 := [.ref 3, .int (iN (zi))]) (kr1 := (78, 76)) (h1 := zg1) rfl ?_
          refine wp_call (md1 := am_m_Plan_lots) (As := [.ref 3]) (rest := [.int (iN (zi))]) (kr1 := (78, 76)) rfl (jg_Plan_lots_3 _ (by omega) q_tk.2.1) ?_
          rintro _ _ ⟨rfl, rfl⟩
          refine wp_ge (a := zi) (b := (zKn G T N : Int)) rfl (by omega) (by omega) (fun b_41 => ?_) (fun b_41 => ?_)
          · refine wp_run (k := 1) (pc1 := 55) (l1 := [(0, .ref 0), (1, .int (iN (zi))), (2, .int (iN (zw))), (3, .ref 3)]) (st1 := [.int (iN (-2))]) (kr1 := (78, 76)) (h1 := zg1) rfl ?_
            refine wp_ret (rv := some (.int (iN (-2)))) rfl ?_
            refine ⟨?_, Or.inr ⟨q_f1, q_k1, q_pl1⟩⟩
            rw [show zVlot N G T zi zw = -2 from ?_]
            unfold zVlot
            (repeat' split) <;> first | rfl | omega | contradiction | (exfalso; omega) | (exfalso; rename_i y_x; exact absurd y_x.2.1 (by assumption)) | (exfalso; rename_i y_x; exact y_x ⟨by omega, by assumption, by omega⟩)
          · refine wp_run (k := 3) (pc1 := 47) (l1 := [(0, .ref 0), (1, .int (iN (zi))), (2, .int (iN (zw))), (3, .ref 3)]) (st1 := [.int (iN (zw)), .int (iN (zi)), .ref 3]) (kr1 := (78, 76)) (h1 := zg1) rfl ?_
            obtain ⟨zj, y_j⟩ : ∃ zj : Nat, zi = (zj : Int) := ⟨(zi).toNat, by omega⟩
            subst y_j
            refine wp_call (md1 := am_m_Plan_ofLot) (As := [.ref 3, .int (iN ((zj : Int))), .int (iN (zw))]) (rest := []) (kr1 := (78, 76)) rfl (jt_ofLot (zK := zKn G T N) (zj := zj) (zw := zw) _ (by omega) q_g q_pl1.1 q_tk.1.1 q_tk.2.2.1 (by omega) (by omega)) ?_
            rintro _ _ ⟨rfl, rfl⟩
            refine wp_run (k := 1) (pc1 := 55) (l1 := [(0, .ref 0), (1, .int (iN ((zj : Int)))), (2, .int (iN (zw))), (3, .ref 3)]) (st1 := [.int (iN (zOf G T N zj (zw)))]) (kr1 := (78, 76)) (h1 := zg1) rfl ?_
            refine wp_ret (rv := some (.int (iN (zOf G T N zj (zw))))) rfl ?_
            refine ⟨?_, Or.inr ⟨q_f1, q_k1, q_pl1⟩⟩
            unfold zVlot
            rw [if_neg (by omega), if_neg (by omega), if_neg (by omega), if_pos (by omega), show ((zj : Int)).toNat = zj by omega]
        · refine wp_run (k := 1) (pc1 := 30) (l1 := [(0, .ref 0), (1, .int (iN (zi))), (2, .int (iN (zw)))]) (st1 := [.int (iN (-1))]) (kr1 := (78, 76)) (h1 := zh) rfl ?_
          refine wp_ret (rv := some (.int (iN (-1)))) rfl ?_
          refine ⟨?_, Or.inl rfl⟩
          rw [show zVlot N G T zi zw = -1 from ?_]
          unfold zVlot
          (repeat' split) <;> first | rfl | omega | contradiction | (exfalso; omega) | (exfalso; rename_i y_x; exact absurd y_x.2.1 (by assumption)) | (exfalso; rename_i y_x; exact y_x ⟨by omega, by assumption, by omega⟩)
    · refine wp_run (k := 1) (pc1 := 13) (l1 := [(0, .ref 0), (1, .int (iN (zi))), (2, .int (iN (zw)))]) (st1 := [.ref 0]) (kr1 := (78, 76)) (h1 := zh) rfl ?_
      refine wp_call (md1 := am_m_Lp_planNow) (As := [.ref 0]) (rest := []) (kr1 := (78, 76)) rfl (jt_planNow _ (by omega) q_nm q_g q_a0 q_s q_k q_r q_old) ?_
      rintro _ zg1 ⟨rfl, q_f1, q_k1, q_pl1⟩
      have q_tk := zTook_k q_pl1.2.1
      have q_nm1 := zNm_f q_f1 q_nm (by decide) (by decide)
      have y_K := zIsN_le q_g q_tk.1
      refine wp_call (md1 := am_m_Plan_lots) (As := [.ref 3]) (rest := []) (kr1 := (78, 76)) rfl (jg_Plan_lots_3 _ (by omega) q_tk.2.1) ?_
      rintro _ _ ⟨rfl, rfl⟩
      refine wp_ret (rv := some (.int (iN ((zKn G T N : Int))))) rfl ?_
      refine ⟨?_, Or.inr ⟨q_f1, q_k1, q_pl1⟩⟩
      rw [show zVlot N G T zi zw = (zKn G T N : Int) from ?_]
      unfold zVlot
      (repeat' split) <;> first | rfl | omega | contradiction | (exfalso; omega) | (exfalso; rename_i y_x; exact absurd y_x.2.1 (by assumption)) | (exfalso; rename_i y_x; exact y_x ⟨by omega, by assumption, by omega⟩)
  · refine wp_run (k := 1) (pc1 := 6) (l1 := [(0, .ref 0), (1, .int (iN (zi))), (2, .int (iN (zw)))]) (st1 := [.int (iN (-1))]) (kr1 := (78, 76)) (h1 := zh) rfl ?_
    refine wp_ret (rv := some (.int (iN (-1)))) rfl ?_
    refine ⟨?_, Or.inl rfl⟩
    rw [show zVlot N G T zi zw = -1 from ?_]
    unfold zVlot
    (repeat' split) <;> first | rfl | omega | contradiction | (exfalso; omega) | (exfalso; rename_i y_x; exact absurd y_x.2.1 (by assumption)) | (exfalso; rename_i y_x; exact y_x ⟨by omega, by assumption, by omega⟩)
set_option maxRecDepth 20000 in
set_option maxHeartbeats 4000000 in
theorem jL_by (zd : Nat) (q_d : 6 ≤ zd) {zh : am_H} {N : Int} {G : Int → Int → Int} {S T zs zk : Int} {zp : Int} {zw : Int} (q_nm : zNm (zh.1 1) (zh.1 2) N G S T) (q_g : zGk N G S T) (q_a0 : zh.1 8 0 = iN 0) (q_s : zh.1 1 2 = iN zs) (q_k : zh.1 3 1 = iN zk) (q_r : 0 ≤ zs ∧ zs < 2147483648 ∧ 0 ≤ zk ∧ zk < 2147483648) (q_old : zk = zs → zPlan_3 zh N G T) (q_zpr : -2147483648 ≤ zp ∧ zp < 2147483648) (q_zwr : -2147483648 ≤ zw ∧ zw < 2147483648) : am_wp zd am_m_Lp_by 0 [(0, .ref 0), (1, .int (iN (zp))), (2, .int (iN (zw)))] [] (78, 76) zh (78, 76) (fun rv h' => rv = some (.int (iN (zVby N G T zp zw))) ∧ zEP zh h' zs N G T) := by
  obtain ⟨zd, rfl⟩ : ∃ y_e, zd = y_e + 6 := ⟨zd - 6, by omega⟩
  have q_N := q_g.1
  refine wp_run (k := 3) (pc1 := 5) (l1 := [(0, .ref 0), (1, .int (iN (zp))), (2, .int (iN (zw)))]) (st1 := [.int (iN (zp)), .ref 1]) (kr1 := (78, 76)) (h1 := zh) rfl ?_
  refine wp_call (md1 := am_m_Numbers_has) (As := [.ref 1, .int (iN (zp))]) (rest := []) (kr1 := (78, 76)) rfl (jt_has_1 _ (by omega) q_nm q_g (zp := zp) (by omega)) ?_
  rintro _ _ ⟨rfl, rfl⟩
  refine wp_eqb rfl (fun b_8 => ?_) (fun b_8 => ?_)
  · refine wp_run (k := 1) (pc1 := 23) (l1 := [(0, .ref 0), (1, .int (iN (zp))), (2, .int (iN (zw)))]) (st1 := [.int (iN (-10000))]) (kr1 := (78, 76)) (h1 := zh) rfl ?_
    refine wp_ret (rv := some (.int (iN (-10000)))) rfl ?_
    refine ⟨?_, Or.inl rfl⟩
    rw [show zVby N G T zp zw = -10000 from ?_]
    unfold zVby
    (repeat' split) <;> first | rfl | omega | contradiction | (exfalso; omega) | (exfalso; rename_i y_x; exact absurd y_x.2.1 (by assumption)) | (exfalso; rename_i y_x; exact y_x ⟨by omega, by assumption, by omega⟩)
  · refine wp_run (k := 1) (pc1 := 12) (l1 := [(0, .ref 0), (1, .int (iN (zp))), (2, .int (iN (zw)))]) (st1 := [.int (iN (zw))]) (kr1 := (78, 76)) (h1 := zh) rfl ?_
    refine wp_lt0 (a := zw) rfl (by omega) (fun b_12 => ?_) (fun b_12 => ?_)
    · refine wp_run (k := 1) (pc1 := 23) (l1 := [(0, .ref 0), (1, .int (iN (zp))), (2, .int (iN (zw)))]) (st1 := [.int (iN (-10000))]) (kr1 := (78, 76)) (h1 := zh) rfl ?_
      refine wp_ret (rv := some (.int (iN (-10000)))) rfl ?_
      refine ⟨?_, Or.inl rfl⟩
      rw [show zVby N G T zp zw = -10000 from ?_]
      unfold zVby
      (repeat' split) <;> first | rfl | omega | contradiction | (exfalso; omega) | (exfalso; rename_i y_x; exact absurd y_x.2.1 (by assumption)) | (exfalso; rename_i y_x; exact y_x ⟨by omega, by assumption, by omega⟩)
    · refine wp_run (k := 2) (pc1 := 17) (l1 := [(0, .ref 0), (1, .int (iN (zp))), (2, .int (iN (zw)))]) (st1 := [.int (iN (1)), .int (iN (zw))]) (kr1 := (78, 76)) (h1 := zh) rfl ?_
      refine wp_le (a := zw) (b := 1) rfl (by omega) (by omega) (fun b_17 => ?_) (fun b_17 => ?_)
      · refine wp_run (k := 1) (pc1 := 25) (l1 := [(0, .ref 0), (1, .int (iN (zp))), (2, .int (iN (zw)))]) (st1 := [.int (iN (zw))]) (kr1 := (78, 76)) (h1 := zh) rfl ?_
        refine wp_ne0 (a := zw) rfl (by omega) (fun b_25 => ?_) (fun b_25 => ?_)
        · refine wp_run (k := 1) (pc1 := 40) (l1 := [(0, .ref 0), (1, .int (iN (zp))), (2, .int (iN (zw)))]) (st1 := [.ref 0]) (kr1 := (78, 76)) (h1 := zh) rfl ?_
          refine wp_call (md1 := am_m_Lp_planNow) (As := [.ref 0]) (rest := []) (kr1 := (78, 76)) rfl (jt_planNow _ (by omega) q_nm q_g q_a0 q_s q_k q_r q_old) ?_
          rintro _ zg1 ⟨rfl, q_f1, q_k1, q_pl1⟩
          have q_tk := zTook_k q_pl1.2.1
          have q_nm1 := zNm_f q_f1 q_nm (by decide) (by decide)
          have y_K := zIsN_le q_g q_tk.1
          refine wp_run (k := 1) (pc1 := 44) (l1 := [(0, .ref 0), (1, .int (iN (zp))), (2, .int (iN (zw)))]) (st1 := [.int (iN (zp)), .ref 3]) (kr1 := (78, 76)) (h1 := zg1) rfl ?_
          refine wp_call (md1 := am_m_Plan_stock) (As := [.ref 3, .int (iN (zp))]) (rest := []) (kr1 := (78, 76)) rfl (jg_Plan_stock_3 _ (by omega) (zp := zp) (by omega) (q_tk.2.2.2.2 (zp) (by omega) (by omega))) ?_
          rintro _ _ ⟨rfl, rfl⟩
          refine wp_ret (rv := some (.int (iN (zSt G (zMB G T N) (zp))))) rfl ?_
          refine ⟨?_, Or.inr ⟨q_f1, q_k1, q_pl1⟩⟩
          rw [show zVby N G T zp zw = zSt G (zMB G T N) (zp) from ?_]
          unfold zVby
          (repeat' split) <;> first | rfl | omega | contradiction | (exfalso; omega) | (exfalso; rename_i y_x; exact absurd y_x.2.1 (by assumption)) | (exfalso; rename_i y_x; exact y_x ⟨by omega, by assumption, by omega⟩)
        · refine wp_run (k := 1) (pc1 := 29) (l1 := [(0, .ref 0), (1, .int (iN (zp))), (2, .int (iN (zw)))]) (st1 := [.ref 0]) (kr1 := (78, 76)) (h1 := zh) rfl ?_
          refine wp_call (md1 := am_m_Lp_planNow) (As := [.ref 0]) (rest := []) (kr1 := (78, 76)) rfl (jt_planNow _ (by omega) q_nm q_g q_a0 q_s q_k q_r q_old) ?_
          rintro _ zg1 ⟨rfl, q_f1, q_k1, q_pl1⟩
          have q_tk := zTook_k q_pl1.2.1
          have q_nm1 := zNm_f q_f1 q_nm (by decide) (by decide)
          have y_K := zIsN_le q_g q_tk.1
          refine wp_run (k := 1) (pc1 := 33) (l1 := [(0, .ref 0), (1, .int (iN (zp))), (2, .int (iN (zw)))]) (st1 := [.int (iN (zp)), .ref 3]) (kr1 := (78, 76)) (h1 := zg1) rfl ?_
          refine wp_call (md1 := am_m_Plan_made) (As := [.ref 3, .int (iN (zp))]) (rest := []) (kr1 := (78, 76)) rfl (jg_Plan_made_3 _ (by omega) (zp := zp) (by omega) (q_tk.2.2.2.1 (zp) (by omega) (by omega))) ?_
          rintro _ _ ⟨rfl, rfl⟩
          refine wp_run (k := 1) (pc1 := 47) (l1 := [(0, .ref 0), (1, .int (iN (zp))), (2, .int (iN (zw)))]) (st1 := [.int (iN (zMB G T N (zp)))]) (kr1 := (78, 76)) (h1 := zg1) rfl ?_
          refine wp_ret (rv := some (.int (iN (zMB G T N (zp))))) rfl ?_
          refine ⟨?_, Or.inr ⟨q_f1, q_k1, q_pl1⟩⟩
          rw [show zVby N G T zp zw = zMB G T N (zp) from ?_]
          unfold zVby
          (repeat' split) <;> first | rfl | omega | contradiction | (exfalso; omega) | (exfalso; rename_i y_x; exact absurd y_x.2.1 (by assumption)) | (exfalso; rename_i y_x; exact y_x ⟨by omega, by assumption, by omega⟩)
      · refine wp_run (k := 1) (pc1 := 23) (l1 := [(0, .ref 0), (1, .int (iN (zp))), (2, .int (iN (zw)))]) (st1 := [.int (iN (-10000))]) (kr1 := (78, 76)) (h1 := zh) rfl ?_
        refine wp_ret (rv := some (.int (iN (-10000)))) rfl ?_
        refine ⟨?_, Or.inl rfl⟩
        rw [show zVby N G T zp zw = -10000 from ?_]
        unfold zVby
        (repeat' split) <;> first | rfl | omega | contradiction | (exfalso; omega) | (exfalso; rename_i y_x; exact absurd y_x.2.1 (by assumption)) | (exfalso; rename_i y_x; exact y_x ⟨by omega, by assumption, by omega⟩)
set_option maxRecDepth 20000 in
set_option maxHeartbeats 4000000 in
theorem jL_forward (zd : Nat) (q_d : 6 ≤ zd) {zh : am_H} {N : Int} {G : Int → Int → Int} {S T zs zk : Int} {zp : Int} {zw : Int} (q_nm : zNm (zh.1 1) (zh.1 2) N G S T) (q_g : zGk N G S T) (q_a0 : zh.1 8 0 = iN 0) (q_s : zh.1 1 2 = iN zs) (q_k : zh.1 3 1 = iN zk) (q_r : 0 ≤ zs ∧ zs < 2147483648 ∧ 0 ≤ zk ∧ zk < 2147483648) (q_old : zk = zs → zPlan_3 zh N G T) (q_zpr : -2147483648 ≤ zp ∧ zp < 2147483648) (q_zwr : -2147483648 ≤ zw ∧ zw < 2147483648) : am_wp zd am_m_Lp_forward 0 [(0, .ref 0), (1, .int (iN (zp))), (2, .int (iN (zw)))] [] (78, 76) zh (78, 76) (fun rv h' => rv = some (.int (iN (zVfwd N G T zp zw))) ∧ zEP zh h' zs N G T) := by
  obtain ⟨zd, rfl⟩ : ∃ y_e, zd = y_e + 6 := ⟨zd - 6, by omega⟩
  have q_N := q_g.1
  refine wp_run (k := 3) (pc1 := 5) (l1 := [(0, .ref 0), (1, .int (iN (zp))), (2, .int (iN (zw)))]) (st1 := [.ref 1, .int (iN (zp))]) (kr1 := (78, 76)) (h1 := zh) rfl ?_
  refine wp_call (md1 := am_m_Numbers_size) (As := [.ref 1]) (rest := [.int (iN (zp))]) (kr1 := (78, 76)) rfl (jt_size_1 _ (by omega) q_nm q_g) ?_
  rintro _ _ ⟨rfl, rfl⟩
  refine wp_run (k := 2) (pc1 := 10) (l1 := [(0, .ref 0), (1, .int (iN (zp))), (2, .int (iN (zw)))]) (st1 := [.int (iN ((N) + (1))), .int (iN (zp))]) (kr1 := (78, 76)) (h1 := zh) (Eq.trans (b := (some (10, [(0, .ref 0), (1, .int (iN (zp))), (2, .int (iN (zw)))], [.int ((iN (N)) + (iN (1))), .int (iN (zp))], (78, 76), zh) : Option am_C)) rfl (by simp only [Int32.ofInt_add, Int32.ofInt_sub, Int32.ofInt_mul, Int32.ofInt_neg])) ?_
  refine wp_call (md1 := am_m_Lp_inside) (As := [.int (iN (zp)), .int (iN ((N) + (1)))]) (rest := []) (kr1 := (78, 76)) rfl (jt_inside _ (by omega) (zi := zp) (ze := (N) + (1)) (by omega) (by omega)) ?_
  rintro _ _ ⟨rfl, rfl⟩
  refine wp_eqb rfl (fun b_13 => ?_) (fun b_13 => ?_)
  · refine wp_run (k := 1) (pc1 := 26) (l1 := [(0, .ref 0), (1, .int (iN (zp))), (2, .int (iN (zw)))]) (st1 := [.int (iN (-1))]) (kr1 := (78, 76)) (h1 := zh) rfl ?_
    refine wp_ret (rv := some (.int (iN (-1)))) rfl ?_
    refine ⟨?_, Or.inl rfl⟩
    rw [show zVfwd N G T zp zw = -1 from ?_]
    unfold zVfwd
    (repeat' split) <;> first | rfl | omega | contradiction | (exfalso; omega) | (exfalso; rename_i y_x; exact absurd y_x.2.1 (by assumption)) | (exfalso; rename_i y_x; exact y_x ⟨by omega, by assumption, by omega⟩)
  · refine wp_run (k := 1) (pc1 := 17) (l1 := [(0, .ref 0), (1, .int (iN (zp))), (2, .int (iN (zw)))]) (st1 := [.int (iN (zw))]) (kr1 := (78, 76)) (h1 := zh) rfl ?_
    refine wp_lt0 (a := zw) rfl (by omega) (fun b_17 => ?_) (fun b_17 => ?_)
    · refine wp_run (k := 1) (pc1 := 26) (l1 := [(0, .ref 0), (1, .int (iN (zp))), (2, .int (iN (zw)))]) (st1 := [.int (iN (-1))]) (kr1 := (78, 76)) (h1 := zh) rfl ?_
      refine wp_ret (rv := some (.int (iN (-1)))) rfl ?_
      refine ⟨?_, Or.inl rfl⟩
      rw [show zVfwd N G T zp zw = -1 from ?_]
      unfold zVfwd
      (repeat' split) <;> first | rfl | omega | contradiction | (exfalso; omega) | (exfalso; rename_i y_x; exact absurd y_x.2.1 (by assumption)) | (exfalso; rename_i y_x; exact y_x ⟨by omega, by assumption, by omega⟩)
    · refine wp_run (k := 2) (pc1 := 22) (l1 := [(0, .ref 0), (1, .int (iN (zp))), (2, .int (iN (zw)))]) (st1 := [.int (iN (2)), .int (iN (zw))]) (kr1 := (78, 76)) (h1 := zh) rfl ?_
      refine wp_le (a := zw) (b := 2) rfl (by omega) (by omega) (fun b_22 => ?_) (fun b_22 => ?_)
      · refine wp_run (k := 1) (pc1 := 28) (l1 := [(0, .ref 0), (1, .int (iN (zp))), (2, .int (iN (zw)))]) (st1 := [.int (iN (zw))]) (kr1 := (78, 76)) (h1 := zh) rfl ?_
        refine wp_ne0 (a := zw) rfl (by omega) (fun b_28 => ?_) (fun b_28 => ?_)
        · refine wp_run (k := 1) (pc1 := 41) (l1 := [(0, .ref 0), (1, .int (iN (zp))), (2, .int (iN (zw)))]) (st1 := [.ref 0]) (kr1 := (78, 76)) (h1 := zh) rfl ?_
          refine wp_call (md1 := am_m_Lp_planNow) (As := [.ref 0]) (rest := []) (kr1 := (78, 76)) rfl (jt_planNow _ (by omega) q_nm q_g q_a0 q_s q_k q_r q_old) ?_
          rintro _ zg1 ⟨rfl, q_f1, q_k1, q_pl1⟩
          have q_tk := zTook_k q_pl1.2.1
          have q_nm1 := zNm_f q_f1 q_nm (by decide) (by decide)
          have y_K := zIsN_le q_g q_tk.1
          refine wp_run (k := 1) (pc1 := 45) (l1 := [(0, .ref 0), (1, .int (iN (zp))), (2, .int (iN (zw)))]) (st1 := [.int (iN (zp)), .ref 3]) (kr1 := (78, 76)) (h1 := zg1) rfl ?_
          refine wp_call (md1 := am_m_Plan_lastBegin) (As := [.ref 3, .int (iN (zp))]) (rest := []) (kr1 := (78, 76)) rfl (jg_Plan_lastBegin_3 _ (by omega) (zp := zp) (by omega) (q_pl1.2.2.2.2 (zp) (by omega) (by omega)).2) ?_
          rintro _ _ ⟨rfl, rfl⟩
          refine wp_run (k := 1) (pc1 := 49) (l1 := [(0, .ref 0), (1, .int (iN (zp))), (2, .int (iN (zw))), (3, .int (iN ((zWd G T (zp)).2)))]) (st1 := []) (kr1 := (78, 76)) (h1 := zg1) rfl ?_
          have y_W := zWd_r q_g (T := T) (x := zp) (by omega) (by omega)
          refine wp_run (k := 2) (pc1 := 51) (l1 := [(0, .ref 0), (1, .int (iN (zp))), (2, .int (iN (zw))), (3, .int (iN ((zWd G T (zp)).2)))]) (st1 := [.int (iN (1)), .int (iN (zw))]) (kr1 := (78, 76)) (h1 := zg1) rfl ?_
          refine wp_ne (a := zw) (b := 1) rfl (by omega) (by omega) (fun b_51 => ?_) (fun b_51 => ?_)
          · refine wp_run (k := 1) (pc1 := 66) (l1 := [(0, .ref 0), (1, .int (iN (zp))), (2, .int (iN (zw))), (3, .int (iN ((zWd G T (zp)).2)))]) (st1 := [.int (iN ((zWd G T (zp)).2))]) (kr1 := (78, 76)) (h1 := zg1) rfl ?_
            refine wp_lt0 (a := (zWd G T (zp)).2) rfl (by omega) (fun b_66 => ?_) (fun b_66 => ?_)
            · refine wp_run (k := 3) (pc1 := 104) (l1 := [(0, .ref 0), (1, .int (iN (zp))), (2, .int (iN (zw))), (3, .int (iN ((zWd G T (zp)).2))), (4, .int (iN (0)))]) (st1 := [.int (iN (0))]) (kr1 := (78, 76)) (h1 := zg1) rfl ?_
              refine wp_eq0 (a := 0) rfl (by omega) (fun b_104 => ?_) (fun b_104 => ?_)
              · refine wp_run (k := 1) (pc1 := 112) (l1 := [(0, .ref 0), (1, .int (iN (zp))), (2, .int (iN (zw))), (3, .int (iN ((zWd G T (zp)).2))), (4, .int (iN (0)))]) (st1 := [.int (iN (0))]) (kr1 := (78, 76)) (h1 := zg1) rfl ?_
                refine wp_ret (rv := some (.int (iN (0)))) rfl ?_
                refine ⟨?_, Or.inr ⟨q_f1, q_k1, q_pl1⟩⟩
                rw [show zVfwd N G T zp zw = 0 from ?_]
                unfold zVfwd
                (repeat' split) <;> first | rfl | omega | contradiction | (exfalso; omega) | (exfalso; rename_i y_x; exact absurd y_x.2.1 (by assumption)) | (exfalso; rename_i y_x; exact y_x ⟨by omega, by assumption, by omega⟩)
              · exact absurd b_104 (by decide)
            · have y_D := zD_rg q_g (a := (zWd G T zp).2 + 1) (b := zp - 1) (by omega) (by omega) (by omega)
              refine wp_run (k := 2) (pc1 := 73) (l1 := [(0, .ref 0), (1, .int (iN (zp))), (2, .int (iN (zw))), (3, .int (iN ((zWd G T (zp)).2)))]) (st1 := [.ref 1]) (kr1 := (78, 76)) (h1 := zg1) rfl ?_
              refine wp_call (md1 := am_m_Numbers_areCalm) (As := [.ref 1]) (rest := []) (kr1 := (78, 76)) rfl (jt_areCalm_1 _ (by omega) q_nm1 q_g) ?_
              rintro _ _ ⟨rfl, rfl⟩
              refine wp_eqb rfl (fun b_76 => ?_) (fun b_76 => ?_)
              · refine wp_run (k := 3) (pc1 := 104) (l1 := [(0, .ref 0), (1, .int (iN (zp))), (2, .int (iN (zw))), (3, .int (iN ((zWd G T (zp)).2))), (4, .int (iN (0)))]) (st1 := [.int (iN (0))]) (kr1 := (78, 76)) (h1 := zg1) rfl ?_
                refine wp_eq0 (a := 0) rfl (by omega) (fun b_104 => ?_) (fun b_104 => ?_)
                · refine wp_run (k := 1) (pc1 := 112) (l1 := [(0, .ref 0), (1, .int (iN (zp))), (2, .int (iN (zw))), (3, .int (iN ((zWd G T (zp)).2))), (4, .int (iN (0)))]) (st1 := [.int (iN (0))]) (kr1 := (78, 76)) (h1 := zg1) rfl ?_
                  refine wp_ret (rv := some (.int (iN (0)))) rfl ?_
                  refine ⟨?_, Or.inr ⟨q_f1, q_k1, q_pl1⟩⟩
                  rw [show zVfwd N G T zp zw = 0 from ?_]
                  unfold zVfwd
                  (repeat' split) <;> first | rfl | omega | contradiction | (exfalso; omega) | (exfalso; rename_i y_x; exact absurd y_x.2.1 (by assumption)) | (exfalso; rename_i y_x; exact y_x ⟨by omega, by assumption, by omega⟩)
                · exact absurd b_104 (by decide)
              · refine wp_run (k := 8) (pc1 := 89) (l1 := [(0, .ref 0), (1, .int (iN (zp))), (2, .int (iN (zw))), (3, .int (iN ((zWd G T (zp)).2)))]) (st1 := [.int (iN ((zp) - (1))), .int (iN (((zWd G T (zp)).2) + (1))), .ref 1]) (kr1 := (78, 76)) (h1 := zg1) (Eq.trans (b := (some (89, [(0, .ref 0), (1, .int (iN (zp))), (2, .int (iN (zw))), (3, .int (iN ((zWd G T (zp)).2)))], [.int ((iN (zp)) - (iN (1))), .int ((iN ((zWd G T (zp)).2)) + (iN (1))), .ref 1], (78, 76), zg1) : Option am_C)) rfl (by simp only [Int32.ofInt_add, Int32.ofInt_sub, Int32.ofInt_mul, Int32.ofInt_neg])) ?_
                refine wp_call (md1 := am_m_Numbers_pieces) (As := [.ref 1, .int (iN (((zWd G T (zp)).2) + (1))), .int (iN ((zp) - (1)))]) (rest := []) (kr1 := (78, 76)) rfl (jt_pieces_1 _ (by omega) q_nm1 q_g (za := ((zWd G T (zp)).2) + (1)) (zb := (zp) - (1)) (by omega)) ?_
                rintro _ _ ⟨rfl, rfl⟩
                refine wp_ne0 (a := zD G (((zWd G T (zp)).2) + (1)) ((zp) - (1))) rfl (by omega) (fun b_92 => ?_) (fun b_92 => ?_)
                · refine wp_run (k := 3) (pc1 := 104) (l1 := [(0, .ref 0), (1, .int (iN (zp))), (2, .int (iN (zw))), (3, .int (iN ((zWd G T (zp)).2))), (4, .int (iN (0)))]) (st1 := [.int (iN (0))]) (kr1 := (78, 76)) (h1 := zg1) rfl ?_
                  refine wp_eq0 (a := 0) rfl (by omega) (fun b_104 => ?_) (fun b_104 => ?_)
                  · refine wp_run (k := 1) (pc1 := 112) (l1 := [(0, .ref 0), (1, .int (iN (zp))), (2, .int (iN (zw))), (3, .int (iN ((zWd G T (zp)).2))), (4, .int (iN (0)))]) (st1 := [.int (iN (0))]) (kr1 := (78, 76)) (h1 := zg1) rfl ?_
                    refine wp_ret (rv := some (.int (iN (0)))) rfl ?_
                    refine ⟨?_, Or.inr ⟨q_f1, q_k1, q_pl1⟩⟩
                    rw [show zVfwd N G T zp zw = 0 from ?_]
                    unfold zVfwd
                    (repeat' split) <;> first | rfl | omega | contradiction | (exfalso; omega) | (exfalso; rename_i y_x; exact absurd y_x.2.1 (by assumption)) | (exfalso; rename_i y_x; exact y_x ⟨by omega, by assumption, by omega⟩)
                  · exact absurd b_104 (by decide)
                · refine wp_run (k := 4) (pc1 := 104) (l1 := [(0, .ref 0), (1, .int (iN (zp))), (2, .int (iN (zw))), (3, .int (iN ((zWd G T (zp)).2))), (4, .int (iN (1)))]) (st1 := [.int (iN (1))]) (kr1 := (78, 76)) (h1 := zg1) rfl ?_
                  refine wp_eq0 (a := 1) rfl (by omega) (fun b_104 => ?_) (fun b_104 => ?_)
                  · exact absurd b_104 (by decide)
                  · refine wp_run (k := 2) (pc1 := 112) (l1 := [(0, .ref 0), (1, .int (iN (zp))), (2, .int (iN (zw))), (3, .int (iN ((zWd G T (zp)).2))), (4, .int (iN (1)))]) (st1 := [.int (iN ((zWd G T (zp)).2))]) (kr1 := (78, 76)) (h1 := zg1) rfl ?_
                    refine wp_ret (rv := some (.int (iN ((zWd G T (zp)).2)))) rfl ?_
                    refine ⟨?_, Or.inr ⟨q_f1, q_k1, q_pl1⟩⟩
                    rw [show zVfwd N G T zp zw = (zWd G T (zp)).2 from ?_]
                    unfold zVfwd
                    (repeat' split) <;> first | rfl | omega | contradiction | (exfalso; omega) | (exfalso; rename_i y_x; exact absurd y_x.2.1 (by assumption)) | (exfalso; rename_i y_x; exact y_x ⟨by omega, by assumption, by omega⟩)
          · refine wp_run (k := 1) (pc1 := 55) (l1 := [(0, .ref 0), (1, .int (iN (zp))), (2, .int (iN (zw))), (3, .int (iN ((zWd G T (zp)).2)))]) (st1 := [.int (iN ((zWd G T (zp)).2))]) (kr1 := (78, 76)) (h1 := zg1) rfl ?_
            refine wp_ge0 (a := (zWd G T (zp)).2) rfl (by omega) (fun b_55 => ?_) (fun b_55 => ?_)
            · refine wp_run (k := 1) (pc1 := 64) (l1 := [(0, .ref 0), (1, .int (iN (zp))), (2, .int (iN (zw))), (3, .int (iN ((zWd G T (zp)).2)))]) (st1 := [.int (iN ((zWd G T (zp)).2))]) (kr1 := (78, 76)) (h1 := zg1) rfl ?_
              refine wp_ret (rv := some (.int (iN ((zWd G T (zp)).2)))) rfl ?_
              refine ⟨?_, Or.inr ⟨q_f1, q_k1, q_pl1⟩⟩
              rw [show zVfwd N G T zp zw = (zWd G T (zp)).2 from ?_]
              unfold zVfwd
              (repeat' split) <;> first | rfl | omega | contradiction | (exfalso; omega) | (exfalso; rename_i y_x; exact absurd y_x.2.1 (by assumption)) | (exfalso; rename_i y_x; exact y_x ⟨by omega, by assumption, by omega⟩)
            · refine wp_run (k := 2) (pc1 := 64) (l1 := [(0, .ref 0), (1, .int (iN (zp))), (2, .int (iN (zw))), (3, .int (iN ((zWd G T (zp)).2)))]) (st1 := [.int (iN (-2))]) (kr1 := (78, 76)) (h1 := zg1) rfl ?_
              refine wp_ret (rv := some (.int (iN (-2)))) rfl ?_
              refine ⟨?_, Or.inr ⟨q_f1, q_k1, q_pl1⟩⟩
              rw [show zVfwd N G T zp zw = -2 from ?_]
              unfold zVfwd
              (repeat' split) <;> first | rfl | omega | contradiction | (exfalso; omega) | (exfalso; rename_i y_x; exact absurd y_x.2.1 (by assumption)) | (exfalso; rename_i y_x; exact y_x ⟨by omega, by assumption, by omega⟩)
        · refine wp_run (k := 1) (pc1 := 32) (l1 := [(0, .ref 0), (1, .int (iN (zp))), (2, .int (iN (zw)))]) (st1 := [.ref 0]) (kr1 := (78, 76)) (h1 := zh) rfl ?_
          refine wp_call (md1 := am_m_Lp_planNow) (As := [.ref 0]) (rest := []) (kr1 := (78, 76)) rfl (jt_planNow _ (by omega) q_nm q_g q_a0 q_s q_k q_r q_old) ?_
          rintro _ zg1 ⟨rfl, q_f1, q_k1, q_pl1⟩
          have q_tk := zTook_k q_pl1.2.1
          have q_nm1 := zNm_f q_f1 q_nm (by decide) (by decide)
          have y_K := zIsN_le q_g q_tk.1
          refine wp_run (k := 1) (pc1 := 36) (l1 := [(0, .ref 0), (1, .int (iN (zp))), (2, .int (iN (zw)))]) (st1 := [.int (iN (zp)), .ref 3]) (kr1 := (78, 76)) (h1 := zg1) rfl ?_
          refine wp_call (md1 := am_m_Plan_forwardCost) (As := [.ref 3, .int (iN (zp))]) (rest := []) (kr1 := (78, 76)) rfl (jg_Plan_forwardCost_3 _ (by omega) (zp := zp) (by omega) (q_pl1.2.2.2.2 (zp) (by omega) (by omega)).1) ?_
          rintro _ _ ⟨rfl, rfl⟩
          refine wp_ret (rv := some (.int (iN ((zWd G T (zp)).1)))) rfl ?_
          refine ⟨?_, Or.inr ⟨q_f1, q_k1, q_pl1⟩⟩
          rw [show zVfwd N G T zp zw = (zWd G T (zp)).1 from ?_]
          unfold zVfwd
          (repeat' split) <;> first | rfl | omega | contradiction | (exfalso; omega) | (exfalso; rename_i y_x; exact absurd y_x.2.1 (by assumption)) | (exfalso; rename_i y_x; exact y_x ⟨by omega, by assumption, by omega⟩)
      · refine wp_run (k := 1) (pc1 := 26) (l1 := [(0, .ref 0), (1, .int (iN (zp))), (2, .int (iN (zw)))]) (st1 := [.int (iN (-1))]) (kr1 := (78, 76)) (h1 := zh) rfl ?_
        refine wp_ret (rv := some (.int (iN (-1)))) rfl ?_
        refine ⟨?_, Or.inl rfl⟩
        rw [show zVfwd N G T zp zw = -1 from ?_]
        unfold zVfwd
        (repeat' split) <;> first | rfl | omega | contradiction | (exfalso; omega) | (exfalso; rename_i y_x; exact absurd y_x.2.1 (by assumption)) | (exfalso; rename_i y_x; exact y_x ⟨by omega, by assumption, by omega⟩)
set_option maxRecDepth 20000 in
set_option maxHeartbeats 4000000 in
theorem jL_part (zd : Nat) (q_d : 6 ≤ zd) {zh : am_H} {N : Int} {G : Int → Int → Int} {S T zs zk : Int} {za : Int} {zn : Int} (q_nm : zNm (zh.1 1) (zh.1 2) N G S T) (q_g : zGk N G S T) (q_a0 : zh.1 8 0 = iN 0) (q_s : zh.1 1 2 = iN zs) (q_k : zh.1 3 1 = iN zk) (q_r : 0 ≤ zs ∧ zs < 2147483648 ∧ 0 ≤ zk ∧ zk < 2147483648) (q_old : zk = zs → zPlan_3 zh N G T) (q_zar : -2147483648 ≤ za ∧ za < 2147483648) (q_znr : -2147483648 ≤ zn ∧ zn < 2147483648) : am_wp zd am_m_Lp_part 0 [(0, .ref 0), (1, .int (iN (za))), (2, .int (iN (zn)))] [] (78, 76) zh (78, 76) (fun rv h' => rv = some (.int (iN (zVpart N G T za zn))) ∧ zEP zh h' zs N G T) := by
  obtain ⟨zd, rfl⟩ : ∃ y_e, zd = y_e + 6 := ⟨zd - 6, by omega⟩
  have q_N := q_g.1
  refine wp_run (k := 2) (pc1 := 4) (l1 := [(0, .ref 0), (1, .int (iN (za))), (2, .int (iN (zn)))]) (st1 := [.ref 1]) (kr1 := (78, 76)) (h1 := zh) rfl ?_
  refine wp_call (md1 := am_m_Numbers_size) (As := [.ref 1]) (rest := []) (kr1 := (78, 76)) rfl (jt_size_1 _ (by omega) q_nm q_g) ?_
  rintro _ _ ⟨rfl, rfl⟩
  refine wp_run (k := 5) (pc1 := 12) (l1 := [(0, .ref 0), (1, .int (iN (za))), (2, .int (iN (zn))), (3, .int (iN ((N) + (1))))]) (st1 := [.int (iN ((N) + (1))), .int (iN (za))]) (kr1 := (78, 76)) (h1 := zh) (Eq.trans (b := (some (12, [(0, .ref 0), (1, .int (iN (za))), (2, .int (iN (zn))), (3, .int ((iN (N)) + (iN (1))))], [.int ((iN (N)) + (iN (1))), .int (iN (za))], (78, 76), zh) : Option am_C)) rfl (by simp only [Int32.ofInt_add, Int32.ofInt_sub, Int32.ofInt_mul, Int32.ofInt_neg])) ?_
  refine wp_call (md1 := am_m_Lp_inside) (As := [.int (iN (za)), .int (iN ((N) + (1)))]) (rest := []) (kr1 := (78, 76)) rfl (jt_inside _ (by omega) (zi := za) (ze := (N) + (1)) (by omega) (by omega)) ?_
  rintro _ _ ⟨rfl, rfl⟩
  refine wp_eqb rfl (fun b_15 => ?_) (fun b_15 => ?_)
  · refine wp_run (k := 1) (pc1 := 32) (l1 := [(0, .ref 0), (1, .int (iN (za))), (2, .int (iN (zn))), (3, .int (iN ((N) + (1))))]) (st1 := [.int (iN (-1))]) (kr1 := (78, 76)) (h1 := zh) rfl ?_
    refine wp_ret (rv := some (.int (iN (-1)))) rfl ?_
    refine ⟨?_, Or.inl rfl⟩
    rw [show zVpart N G T za zn = -1 from ?_]
    unfold zVpart
    (repeat' split) <;> first | rfl | omega | contradiction | (exfalso; omega) | (exfalso; rename_i y_x; exact absurd y_x.2.1 (by assumption)) | (exfalso; rename_i y_x; exact y_x ⟨by omega, by assumption, by omega⟩)
  · refine wp_run (k := 2) (pc1 := 20) (l1 := [(0, .ref 0), (1, .int (iN (za))), (2, .int (iN (zn))), (3, .int (iN ((N) + (1))))]) (st1 := [.int (iN ((N) + (1))), .int (iN (zn))]) (kr1 := (78, 76)) (h1 := zh) rfl ?_
    refine wp_call (md1 := am_m_Lp_inside) (As := [.int (iN (zn)), .int (iN ((N) + (1)))]) (rest := []) (kr1 := (78, 76)) rfl (jt_inside _ (by omega) (zi := zn) (ze := (N) + (1)) (by omega) (by omega)) ?_
    rintro _ _ ⟨rfl, rfl⟩
    refine wp_eqb rfl (fun b_23 => ?_) (fun b_23 => ?_)
    · refine wp_run (k := 1) (pc1 := 32) (l1 := [(0, .ref 0), (1, .int (iN (za))), (2, .int (iN (zn))), (3, .int (iN ((N) + (1))))]) (st1 := [.int (iN (-1))]) (kr1 := (78, 76)) (h1 := zh) rfl ?_
      refine wp_ret (rv := some (.int (iN (-1)))) rfl ?_
      refine ⟨?_, Or.inl rfl⟩
      rw [show zVpart N G T za zn = -1 from ?_]
      unfold zVpart
      (repeat' split) <;> first | rfl | omega | contradiction | (exfalso; omega) | (exfalso; rename_i y_x; exact absurd y_x.2.1 (by assumption)) | (exfalso; rename_i y_x; exact y_x ⟨by omega, by assumption, by omega⟩)
    · refine wp_run (k := 2) (pc1 := 28) (l1 := [(0, .ref 0), (1, .int (iN (za))), (2, .int (iN (zn))), (3, .int (iN ((N) + (1))))]) (st1 := [.int (iN (zn)), .int (iN (za))]) (kr1 := (78, 76)) (h1 := zh) rfl ?_
      refine wp_le (a := za) (b := zn) rfl (by omega) (by omega) (fun b_28 => ?_) (fun b_28 => ?_)
      · refine wp_run (k := 1) (pc1 := 34) (l1 := [(0, .ref 0), (1, .int (iN (za))), (2, .int (iN (zn))), (3, .int (iN ((N) + (1))))]) (st1 := [.ref 0]) (kr1 := (78, 76)) (h1 := zh) rfl ?_
        refine wp_call (md1 := am_m_Lp_planNow) (As := [.ref 0]) (rest := []) (kr1 := (78, 76)) rfl (jt_planNow _ (by omega) q_nm q_g q_a0 q_s q_k q_r q_old) ?_
        rintro _ zg1 ⟨rfl, q_f1, q_k1, q_pl1⟩
        have q_tk := zTook_k q_pl1.2.1
        have q_nm1 := zNm_f q_f1 q_nm (by decide) (by decide)
        have y_K := zIsN_le q_g q_tk.1
        refine wp_run (k := 2) (pc1 := 39) (l1 := [(0, .ref 0), (1, .int (iN (za))), (2, .int (iN (zn))), (3, .int (iN ((N) + (1))))]) (st1 := [.int (iN (zn)), .int (iN (za)), .ref 3]) (kr1 := (78, 76)) (h1 := zg1) rfl ?_
        refine wp_call (md1 := am_m_Plan_partCost) (As := [.ref 3, .int (iN (za)), .int (iN (zn))]) (rest := []) (kr1 := (78, 76)) rfl (jt_part_3 (za := za) (zn := zn) _ (by omega) q_g q_pl1.1 (by omega)) ?_
        rintro _ zg2 ⟨rfl, q_f2, q_row2⟩
        refine wp_ret (rv := some (.int (iN ((zPv G T (zn) (za)).1)))) rfl ?_
        refine ⟨?_, Or.inr ⟨am_fr_t q_f1 (am_fr_m q_f2 (fun c y => by simp only [List.mem_cons, List.not_mem_nil, or_false] at y ⊢; omega)), (congrFun (q_f2.2 3 (by decide)) 1).trans q_k1, zPlan_r q_f2 q_pl1⟩⟩
        rw [show zVpart N G T za zn = (zPv G T (zn) (za)).1 from ?_]
        unfold zVpart
        (repeat' split) <;> first | rfl | omega | contradiction | (exfalso; omega) | (exfalso; rename_i y_x; exact absurd y_x.2.1 (by assumption)) | (exfalso; rename_i y_x; exact y_x ⟨by omega, by assumption, by omega⟩)
      · refine wp_run (k := 1) (pc1 := 32) (l1 := [(0, .ref 0), (1, .int (iN (za))), (2, .int (iN (zn))), (3, .int (iN ((N) + (1))))]) (st1 := [.int (iN (-1))]) (kr1 := (78, 76)) (h1 := zh) rfl ?_
        refine wp_ret (rv := some (.int (iN (-1)))) rfl ?_
        refine ⟨?_, Or.inl rfl⟩
        rw [show zVpart N G T za zn = -1 from ?_]
        unfold zVpart
        (repeat' split) <;> first | rfl | omega | contradiction | (exfalso; omega) | (exfalso; rename_i y_x; exact absurd y_x.2.1 (by assumption)) | (exfalso; rename_i y_x; exact y_x ⟨by omega, by assumption, by omega⟩)
set_option maxRecDepth 20000 in
set_option maxHeartbeats 4000000 in
theorem jL_print (zd : Nat) (q_d : 6 ≤ zd) {zh : am_H} {N : Int} {G : Int → Int → Int} {S T zs zk : Int} {zi : Int} (q_nm : zNm (zh.1 1) (zh.1 2) N G S T) (q_g : zGk N G S T) (q_a0 : zh.1 8 0 = iN 0) (q_s : zh.1 1 2 = iN zs) (q_k : zh.1 3 1 = iN zk) (q_r : 0 ≤ zs ∧ zs < 2147483648 ∧ 0 ≤ zk ∧ zk < 2147483648) (q_old : zk = zs → zPlan_3 zh N G T) (q_zir : -2147483648 ≤ zi ∧ zi < 2147483648) : am_wp zd am_m_Lp_print 0 [(0, .ref 0), (1, .int (iN (zi)))] [] (78, 76) zh (78, 76) (fun rv h' => rv = some (.int (iN (zVprint N G T zi))) ∧ (zh = h' ∨ (am_fr [3, 5, 6, 7, 8, 9, 10, 11, 12, 13, 14, 15, 16, 17, 29, 30] zh h' ∧ h'.1 3 1 = iN zs ∧ zPlan_3 h' N G T))) := by
  obtain ⟨zd, rfl⟩ : ∃ y_e, zd = y_e + 6 := ⟨zd - 6, by omega⟩
  have q_N := q_g.1
  refine wp_run (k := 2) (pc1 := 2) (l1 := [(0, .ref 0), (1, .int (iN (zi)))]) (st1 := [.int (iN (-1)), .int (iN (zi))]) (kr1 := (78, 76)) (h1 := zh) rfl ?_
  refine wp_ge (a := zi) (b := -1) rfl (by omega) (by omega) (fun b_2 => ?_) (fun b_2 => ?_)
  · refine wp_run (k := 3) (pc1 := 12) (l1 := [(0, .ref 0), (1, .int (iN (zi)))]) (st1 := [.ref 0, .ref 29]) (kr1 := (78, 76)) (h1 := zh) rfl ?_
    refine wp_call (md1 := am_m_Lp_planNow) (As := [.ref 0]) (rest := [.ref 29]) (kr1 := (78, 76)) rfl (jt_planNow _ (by omega) q_nm q_g q_a0 q_s q_k q_r q_old) ?_
    rintro _ zg1 ⟨rfl, q_f1, q_k1, q_pl1⟩
    have q_tk := zTook_k q_pl1.2.1
    have q_nm1 := zNm_f q_f1 q_nm (by decide) (by decide)
    have y_K := zIsN_le q_g q_tk.1
    refine wp_call (md1 := am_m_Printed_write) (As := [.ref 29, .ref 3]) (rest := []) (kr1 := (78, 76)) rfl (jt_pwrite (zK := zKn G T N) _ (by omega) q_g q_pl1.1 q_tk.1 q_tk.2.1 q_tk.2.2.1) ?_
    rintro _ zg2 ⟨rfl, q_f2, q_p2⟩
    have y_l := zTx_l q_g _ q_tk.1.1
    refine wp_run (k := 2) (pc1 := 20) (l1 := [(0, .ref 0), (1, .int (iN (zi)))]) (st1 := [.int (iN (-1)), .int (iN (zi))]) (kr1 := (78, 76)) (h1 := zg2) rfl ?_
    refine wp_ne (a := zi) (b := -1) rfl (by omega) (by omega) (fun b_20 => ?_) (fun b_20 => ?_)
    · refine wp_run (k := 3) (pc1 := 36) (l1 := [(0, .ref 0), (1, .int (iN (zi)))]) (st1 := [.ref 29, .int (iN (zi))]) (kr1 := (78, 76)) (h1 := zg2) rfl ?_
      refine wp_call (md1 := am_m_Printed_length) (As := [.ref 29]) (rest := [.int (iN (zi))]) (kr1 := (78, 76)) rfl (jg_Printed_length_29 _ (by omega) q_p2.1) ?_
      rintro _ _ ⟨rfl, rfl⟩
      refine wp_ge (a := zi) (b := ((zTx G T N (zKn G T N)).length : Int)) rfl (by omega) (by omega) (fun b_39 => ?_) (fun b_39 => ?_)
      · refine wp_run (k := 1) (pc1 := 55) (l1 := [(0, .ref 0), (1, .int (iN (zi)))]) (st1 := [.int (iN (-2))]) (kr1 := (78, 76)) (h1 := zg2) rfl ?_
        refine wp_ret (rv := some (.int (iN (-2)))) rfl ?_
        refine ⟨?_, Or.inr ⟨am_fr_t (am_fr_m q_f1 (fun c y => by simp only [List.mem_cons, List.not_mem_nil, or_false] at y ⊢; omega)) (am_fr_m q_f2 (fun c y => by simp only [List.mem_cons, List.not_mem_nil, or_false] at y ⊢; omega)), (congrFun (q_f2.2 3 (by decide)) 1).trans q_k1, zPlan_f_3 q_f2 (by decide) q_pl1⟩⟩
        rw [show zVprint N G T zi = -2 from ?_]
        unfold zVprint
        (repeat' split) <;> first | rfl | omega | contradiction | (exfalso; omega) | (exfalso; rename_i y_x; exact absurd y_x.2.1 (by assumption)) | (exfalso; rename_i y_x; exact y_x ⟨by omega, by assumption, by omega⟩)
      · refine wp_run (k := 3) (pc1 := 47) (l1 := [(0, .ref 0), (1, .int (iN (zi)))]) (st1 := [.int (iN (zi)), .ref 29]) (kr1 := (78, 76)) (h1 := zg2) rfl ?_
        refine wp_call (md1 := am_m_Printed_sign) (As := [.ref 29, .int (iN (zi))]) (rest := []) (kr1 := (78, 76)) rfl (jt_psign (zl := (zTx G T N (zKn G T N))) (zi := zi) _ (by omega) q_p2 (by omega) (by omega)) ?_
        rintro _ _ ⟨rfl, rfl⟩
        refine wp_run (k := 1) (pc1 := 55) (l1 := [(0, .ref 0), (1, .int (iN (zi)))]) (st1 := [.int (iN ((zTx G T N (zKn G T N)).getD (zi).toNat 0))]) (kr1 := (78, 76)) (h1 := zg2) rfl ?_
        refine wp_ret (rv := some (.int (iN ((zTx G T N (zKn G T N)).getD (zi).toNat 0)))) rfl ?_
        refine ⟨?_, Or.inr ⟨am_fr_t (am_fr_m q_f1 (fun c y => by simp only [List.mem_cons, List.not_mem_nil, or_false] at y ⊢; omega)) (am_fr_m q_f2 (fun c y => by simp only [List.mem_cons, List.not_mem_nil, or_false] at y ⊢; omega)), (congrFun (q_f2.2 3 (by decide)) 1).trans q_k1, zPlan_f_3 q_f2 (by decide) q_pl1⟩⟩
        rw [show zVprint N G T zi = (zTx G T N (zKn G T N)).getD (zi).toNat 0 from ?_]
        unfold zVprint
        (repeat' split) <;> first | rfl | omega | contradiction | (exfalso; omega) | (exfalso; rename_i y_x; exact absurd y_x.2.1 (by assumption)) | (exfalso; rename_i y_x; exact y_x ⟨by omega, by assumption, by omega⟩)
    · refine wp_run (k := 2) (pc1 := 27) (l1 := [(0, .ref 0), (1, .int (iN (zi)))]) (st1 := [.ref 29]) (kr1 := (78, 76)) (h1 := zg2) rfl ?_
      refine wp_call (md1 := am_m_Printed_length) (As := [.ref 29]) (rest := []) (kr1 := (78, 76)) rfl (jg_Printed_length_29 _ (by omega) q_p2.1) ?_
      rintro _ _ ⟨rfl, rfl⟩
      refine wp_ret (rv := some (.int (iN (((zTx G T N (zKn G T N)).length : Int))))) rfl ?_
      refine ⟨?_, Or.inr ⟨am_fr_t (am_fr_m q_f1 (fun c y => by simp only [List.mem_cons, List.not_mem_nil, or_false] at y ⊢; omega)) (am_fr_m q_f2 (fun c y => by simp only [List.mem_cons, List.not_mem_nil, or_false] at y ⊢; omega)), (congrFun (q_f2.2 3 (by decide)) 1).trans q_k1, zPlan_f_3 q_f2 (by decide) q_pl1⟩⟩
      rw [show zVprint N G T zi = ((zTx G T N (zKn G T N)).length : Int) from ?_]
      unfold zVprint
      (repeat' split) <;> first | rfl | omega | contradiction | (exfalso; omega) | (exfalso; rename_i y_x; exact absurd y_x.2.1 (by assumption)) | (exfalso; rename_i y_x; exact y_x ⟨by omega, by assumption, by omega⟩)
  · refine wp_run (k := 1) (pc1 := 6) (l1 := [(0, .ref 0), (1, .int (iN (zi)))]) (st1 := [.int (iN (-1))]) (kr1 := (78, 76)) (h1 := zh) rfl ?_
    refine wp_ret (rv := some (.int (iN (-1)))) rfl ?_
    refine ⟨?_, Or.inl rfl⟩
    rw [show zVprint N G T zi = -1 from ?_]
    unfold zVprint
    (repeat' split) <;> first | rfl | omega | contradiction | (exfalso; omega) | (exfalso; rename_i y_x; exact absurd y_x.2.1 (by assumption)) | (exfalso; rename_i y_x; exact y_x ⟨by omega, by assumption, by omega⟩)
