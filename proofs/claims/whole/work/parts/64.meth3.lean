/-! THE CLASS's methods: in thought, what is by hand as planned -/
/-- the plans may be reckoned anew, also that in thought -/
def zEW (zh zg : am_H) (zs zk zt zd N : Int) (G : Int → Int → Int) (T : Int) : Prop := am_fr [34, 35, 36, 38, 39, 40, 41, 42, 43, 44, 45, 46, 47, 48, 49, 50, 3, 5, 6, 7, 8, 9, 10, 11, 12, 13, 14, 15, 16, 17] zh zg ∧ (∃ zu zj : Int, zg.1 34 2 = iN zu ∧ zg.1 36 1 = iN zj ∧ 0 ≤ zj ∧ zj ≤ zu ∧ zt ≤ zu ∧ zu ≤ zt + zd) ∧ zg.1 41 0 = iN 0 ∧ zg.1 8 0 = iN 0 ∧ ∃ zl : Int, zg.1 3 1 = iN zl ∧ (zl = zk ∨ zl = zs) ∧ (zl = zs → zPlan_3 zg N G T)
theorem zEW_0 {zh : am_H} {zs zk zt zj N : Int} {G : Int → Int → Int} {T : Int} (q_t : zh.1 34 2 = iN zt) (q_j : zh.1 36 1 = iN zj) (q_r : 0 ≤ zj ∧ zj ≤ zt) (q_41 : zh.1 41 0 = iN 0) (q_8 : zh.1 8 0 = iN 0) (q_k : zh.1 3 1 = iN zk) (q_o : zk = zs → zPlan_3 zh N G T) : zEW zh zh zs zk zt 0 N G T := ⟨am_fr_0 _ _, ⟨zt, zj, q_t, q_j, q_r.1, q_r.2, by omega, by omega⟩, q_41, q_8, zk, q_k, Or.inl rfl, q_o⟩
theorem zEW_d {zh zg : am_H} {zs zk zt zd ze N : Int} {G : Int → Int → Int} {T : Int} (q : zEW zh zg zs zk zt zd N G T) (q1 : zd ≤ ze) : zEW zh zg zs zk zt ze N G T := by
  obtain ⟨y1, ⟨zu, zj, y2, y3, y4, y5, y6, y7⟩, y8⟩ := q
  exact ⟨y1, ⟨zu, zj, y2, y3, y4, y5, y6, by omega⟩, y8⟩
theorem zG1_eq (G : Int → Int → Int) (w p v : Int) : zG1 G w p v w p = v := if_pos ⟨rfl, rfl⟩
set_option maxRecDepth 20000 in
set_option maxHeartbeats 4000000 in
theorem jt_planWith (zd : Nat) (q_d : 6 ≤ zd) {zh : am_H} {N : Int} {G : Int → Int → Int} {S T zt zj : Int} {zp zw zv : Int} (q_nm : zNm (zh.1 1) (zh.1 2) N G S T) (q_g : zGk N G S T) (q_t : zh.1 34 2 = iN zt) (q_j : zh.1 36 1 = iN zj) (q_tr : 0 ≤ zj ∧ zj ≤ zt ∧ zt < 2147483000) (q_41 : zh.1 41 0 = iN 0) (q_p : 0 ≤ zp ∧ zp < N) (q_w : 0 ≤ zw ∧ zw < 6) (q_v : 0 ≤ zv ∧ zv ≤ vmax zw) : am_wp zd am_m_Lp_planWith 0 [(0, .ref 0), (1, .int (iN (zp))), (2, .int (iN (zw))), (3, .int (iN (zv)))] [] (78, 76) zh (78, 76) (fun rv h' => rv = some (.ref 36) ∧ am_fr [34, 35, 36, 38, 39, 40, 41, 42, 43, 44, 45, 46, 47, 48, 49, 50] zh h' ∧ h'.1 34 2 = iN (zt + 2) ∧ h'.1 36 1 = iN (zt + 2) ∧ h'.1 41 0 = iN 0 ∧ zPlan_36 h' N (zG1 G zw zp zv) T) := by
  obtain ⟨zd, rfl⟩ : ∃ y_e, zd = y_e + 6 := ⟨zd - 6, by omega⟩
  have q_N := q_g.1
  refine wp_run (k := 4) (pc1 := 8) (l1 := [(0, .ref 0), (1, .int (iN (zp))), (2, .int (iN (zw))), (3, .int (iN (zv)))]) (st1 := [.ref 1, .ref 34]) (kr1 := (78, 76)) (h1 := zh) rfl ?_
  refine wp_call (md1 := am_m_Numbers_becomeLike) (As := [.ref 34, .ref 1]) (rest := []) (kr1 := (78, 76)) rfl (jt_like_34_1 (zn := N) (zs := zt) _ (by omega) q_nm.1 q_t) ?_
  rintro _ zh1 ⟨rfl, q_e1⟩
  have q_n1 : zNm (zh1.1 34) (zh1.1 35) N G S T := by
    rw [← q_e1, am_row_s, am_row_n _ _ _ (by decide), am_row_s]
    exact zNm_cp q_N.2 q_nm ((zUp_n _ _ _ (by decide)).trans ((zUp_s _ _ _).trans q_nm.1.symm)) (fun k y => (zCq_i _ _ (by omega)).trans (congrArg (zh.1 2) (by omega)))
  have q_s1 : zh1.1 34 2 = iN (zt + 1) := by rw [← q_e1, am_row_s, zUp_s]
  have q_f1 : am_fr [34, 35] zh zh1 := by rw [← q_e1]; exact am_fr_r (am_fr_r (am_fr_0 _ _) (by decide) _) (by decide) _
  refine wp_run (k := 5) (pc1 := 18) (l1 := [(0, .ref 0), (1, .int (iN (zp))), (2, .int (iN (zw))), (3, .int (iN (zv)))]) (st1 := [.int (iN (zv)), .int (iN (zw)), .int (iN (zp)), .ref 34]) (kr1 := (78, 76)) (h1 := zh1) rfl ?_
  refine wp_call (md1 := am_m_Numbers_become) (As := [.ref 34, .int (iN (zp)), .int (iN (zw)), .int (iN (zv))]) (rest := []) (kr1 := (78, 76)) rfl (jt_become_34 (zs := zt + 1) (zp := zp) (zw := zw) (zv := zv) _ (by omega) q_n1 q_g q_p q_w q_s1) ?_
  rintro _ zh2 ⟨rfl, fo, fc, q_e2, q_n2, q_s2⟩
  have q_n3 : zNm (zh2.1 34) (zh2.1 35) N (zG1 G zw zp zv) S T := by rw [← q_e2, am_row_s, am_row_n _ _ _ (by decide), am_row_s]; exact q_n2
  have q_s3 : zh2.1 34 2 = iN (zt + 1 + 1) := by rw [← q_e2, am_row_s]; exact q_s2
  have q_f2 : am_fr [34, 35] zh zh2 := am_fr_t q_f1 (by rw [← q_e2]; exact am_fr_r (am_fr_r (am_fr_0 _ _) (by decide) _) (by decide) _)
  refine wp_run (k := 4) (pc1 := 29) (l1 := [(0, .ref 0), (1, .int (iN (zp))), (2, .int (iN (zw))), (3, .int (iN (zv)))]) (st1 := [.ref 34, .ref 36]) (kr1 := (78, 76)) (h1 := zh2) rfl ?_
  refine wp_call (md1 := am_m_Plan_refresh) (As := [.ref 36, .ref 34]) (rest := []) (kr1 := (78, 76)) rfl (jt_refresh_36 (zs := zt + 1 + 1) (zk := zj) _ (by omega) q_n3 (zGk_up q_g q_v) ((congrFun (q_f2.2 41 (by decide)) 0).trans q_41) q_s3 ((congrFun (q_f2.2 36 (by decide)) 1).trans q_j) (by omega) (fun y => by omega)) ?_
  rintro _ zh3 ⟨rfl, q_f3, q_k3, q_pl3⟩
  refine wp_run (k := 2) (pc1 := 36) (l1 := [(0, .ref 0), (1, .int (iN (zp))), (2, .int (iN (zw))), (3, .int (iN (zv)))]) (st1 := [.ref 36]) (kr1 := (78, 76)) (h1 := zh3) rfl ?_
  refine wp_ret (rv := some (.ref 36)) rfl ?_
  exact ⟨rfl, am_fr_t (am_fr_m q_f2 (fun c y => by simp only [List.mem_cons, List.not_mem_nil, or_false] at y ⊢; omega)) (am_fr_m q_f3 (fun c y => by simp only [List.mem_cons, List.not_mem_nil, or_false] at y ⊢; omega)), ((congrFun (q_f3.2 34 (by decide)) 2).trans q_s3).trans (congrArg iN (by omega)), q_k3.trans (congrArg iN (by omega)), q_pl3.1.1 0 (by omega) (by omega), q_pl3⟩
theorem zEW_w {zh zg zk1 : am_H} {zs zk zt zd zu N : Int} {G : Int → Int → Int} {T : Int} (q : zEW zh zg zs zk zt zd N G T) (q_u : zg.1 34 2 = iN zu) (q_ur : zt ≤ zu ∧ zu ≤ zt + zd) (q_0 : 0 ≤ zu) (q_f : am_fr [34, 35, 36, 38, 39, 40, 41, 42, 43, 44, 45, 46, 47, 48, 49, 50] zg zk1) (q_1 : zk1.1 34 2 = iN (zu + 2)) (q_2 : zk1.1 36 1 = iN (zu + 2)) (q_3 : zk1.1 41 0 = iN 0) : zEW zh zk1 zs zk zt (zd + 2) N G T := by
  obtain ⟨y1, y2, y3, y4, zl, y5, y6, y7⟩ := q
  exact ⟨am_fr_t y1 (am_fr_m q_f (fun c y => by simp only [List.mem_cons, List.not_mem_nil, or_false] at y ⊢; omega)), ⟨zu + 2, zu + 2, q_1, q_2, by omega, by omega, by omega, by omega⟩, q_3, (congrFun (q_f.2 8 (by decide)) 0).trans y4, zl, (congrFun (q_f.2 3 (by decide)) 1).trans y5, y6, fun y => zPlan_f_3 q_f (by decide) (y7 y)⟩
theorem zEW_p {zh zg : am_H} {zs zk zt zd N : Int} {G : Int → Int → Int} {T : Int} {zh1 : am_H} (q : zEW zh zg zs zk zt zd N G T) (q_f : am_fr [3, 5, 6, 7, 8, 9, 10, 11, 12, 13, 14, 15, 16, 17] zg zh1) (q_k : zh1.1 3 1 = iN zs) (q_p : zPlan_3 zh1 N G T) (q_N : 0 ≤ N) : zEW zh zh1 zs zk zt zd N G T := by
  obtain ⟨y1, ⟨zu, zj, y2, y3, y4⟩, y5, y6, _⟩ := q
  exact ⟨am_fr_t y1 (am_fr_m q_f (fun c y => by simp only [List.mem_cons, List.not_mem_nil, or_false] at y ⊢; omega)), ⟨zu, zj, (congrFun (q_f.2 34 (by decide)) 2).trans y2, (congrFun (q_f.2 36 (by decide)) 1).trans y3, y4⟩, (congrFun (q_f.2 41 (by decide)) 0).trans y5, q_p.1.1 0 (by omega) q_N, zs, q_k, Or.inr rfl, fun _ => q_p⟩
theorem zMB_u {zg : am_H} {N : Int} {G : Int → Int → Int} {T : Int} (q : zPlan_36 zg N G T) : zIsN G T N (zKn G T N) ∧ zHd (zg.1 49) (zMB G T N) 16 ∧ zg.1 36 12 = iN (zPv G T N 0).1 := ⟨(zTook_k q.2.1).1, (zTook_k q.2.1).2.2.2.1, q.2.2.1⟩
noncomputable def zVmore (N : Int) (G : Int → Int → Int) (T p : Int) : Int := if ¬ (0 ≤ p ∧ p < N) ∨ 99 ≤ G 0 p then -10000 else (zPv (zG1 G 0 p (G 0 p + 1)) T N 0).1 - (zPv G T N 0).1
/-- how many differ, the first, of the last r -/
def zTq (A B : Int → Int) (N : Int) : Nat → Int × Int
  | 0 => (0, -2)
  | r + 1 => if A (N - 1 - r) = B (N - 1 - r) then zTq A B N r else ((zTq A B N r).1 + 1, N - 1 - r)
theorem zTq_s (A B : Int → Int) (N p : Int) (q : p < N) : zTq A B N (N - p).toNat = if A p = B p then zTq A B N (N - 1 - p).toNat else ((zTq A B N (N - 1 - p).toNat).1 + 1, p) := by
  rw [show (N - p).toNat = (N - 1 - p).toNat + 1 by omega]
  show (if A (N - 1 - ((N - 1 - p).toNat : Int)) = B (N - 1 - ((N - 1 - p).toNat : Int)) then zTq A B N (N - 1 - p).toNat else ((zTq A B N (N - 1 - p).toNat).1 + 1, N - 1 - ((N - 1 - p).toNat : Int))) = _
  rw [show N - 1 - ((N - 1 - p).toNat : Int) = p by omega]
noncomputable def zVtou (N : Int) (G : Int → Int → Int) (T p v w : Int) : Int := if ¬ (0 ≤ p ∧ p < N) ∨ ¬ (0 ≤ v ∧ v ≤ 99) ∨ w < 0 ∨ 2 < w then -10000 else if w = 2 then (zPv (zG1 G 0 p v) T N 0).1 - (zPv G T N 0).1 else if w = 0 then (zTq (zMB (zG1 G 0 p v) T N) (zMB G T N) N N.toNat).1 else (zTq (zMB (zG1 G 0 p v) T N) (zMB G T N) N N.toNat).2
/-- halving, so often -/
noncomputable def zKe (G : Int → Int → Int) (T N p : Int) : Nat → Int → Int → Int
  | 0, low, _ => low
  | k + 1, low, high => if low < high then (if 0 < zMB (zG1 G 1 p ((low + high + 1) / 2)) T N p then zKe G T N p k ((low + high + 1) / 2) high else zKe G T N p k low ((low + high + 1) / 2 - 1)) else low
noncomputable def zVkeep (N : Int) (G : Int → Int → Int) (T p : Int) : Int := if ¬ (0 ≤ p ∧ p < N) then -1 else if zMB G T N p = 0 then -2 else zKe G T N p 10 (G 1 p) 999
set_option maxRecDepth 20000 in
set_option maxHeartbeats 4000000 in
theorem jL_more (zd : Nat) (q_d : 7 ≤ zd) {zh : am_H} {N : Int} {G : Int → Int → Int} {S T zs zk zt zj : Int} {zp : Int} (q_nm : zNm (zh.1 1) (zh.1 2) N G S T) (q_g : zGk N G S T) (q_a0 : zh.1 8 0 = iN 0) (q_s : zh.1 1 2 = iN zs) (q_k : zh.1 3 1 = iN zk) (q_r : 0 ≤ zs ∧ zs < 2147483648 ∧ 0 ≤ zk ∧ zk < 2147483648) (q_old : zk = zs → zPlan_3 zh N G T) (q_t : zh.1 34 2 = iN zt) (q_j : zh.1 36 1 = iN zj) (q_tr : 0 ≤ zj ∧ zj ≤ zt ∧ zt < 2147480000) (q_41 : zh.1 41 0 = iN 0) (q_zpr : -2147483648 ≤ zp ∧ zp < 2147483648) : am_wp zd am_m_Lp_more 0 [(0, .ref 0), (1, .int (iN (zp)))] [] (78, 76) zh (78, 76) (fun rv h' => rv = some (.int (iN (zVmore N G T zp))) ∧ zEW zh h' zs zk zt 2 N G T) := by
  obtain ⟨zd, rfl⟩ : ∃ y_e, zd = y_e + 7 := ⟨zd - 7, by omega⟩
  have q_N := q_g.1
  have y_0 := zEW_0 (zs := zs) (G := G) (T := T) (N := N) q_t q_j ⟨q_tr.1, q_tr.2.1⟩ q_41 q_a0 q_k q_old
  refine wp_run (k := 3) (pc1 := 5) (l1 := [(0, .ref 0), (1, .int (iN (zp)))]) (st1 := [.int (iN (zp)), .ref 1]) (kr1 := (78, 76)) (h1 := zh) rfl ?_
  refine wp_call (md1 := am_m_Numbers_has) (As := [.ref 1, .int (iN (zp))]) (rest := []) (kr1 := (78, 76)) rfl (jt_has_1 _ (by omega) q_nm q_g (zp := zp) (by omega)) ?_
  rintro _ _ ⟨rfl, rfl⟩
  refine wp_neb rfl (fun b_8 => ?_) (fun b_8 => ?_)
  · refine wp_run (k := 4) (pc1 := 21) (l1 := [(0, .ref 0), (1, .int (iN (zp)))]) (st1 := [.int (iN (0)), .int (iN (zp)), .ref 1]) (kr1 := (78, 76)) (h1 := zh) rfl ?_
    refine wp_call (md1 := am_m_Numbers_value) (As := [.ref 1, .int (iN (zp)), .int (iN (0))]) (rest := []) (kr1 := (78, 76)) rfl (jt_value_1 _ (by omega) q_nm q_g (zp := zp) (zw := 0) (by omega) (by omega)) ?_
    rintro _ _ ⟨rfl, rfl⟩
    refine wp_run (k := 1) (pc1 := 25) (l1 := [(0, .ref 0), (1, .int (iN (zp))), (2, .int (iN (G (0) (zp))))]) (st1 := []) (kr1 := (78, 76)) (h1 := zh) rfl ?_
    have y_G := q_g.2.1 0 zp (by omega) (by omega) (by omega) (by omega)
    have y_v0 := (show vmax 0 = 99 from rfl)
    refine wp_run (k := 3) (pc1 := 30) (l1 := [(0, .ref 0), (1, .int (iN (zp))), (2, .int (iN (G (0) (zp))))]) (st1 := [.int (iN (0)), .ref 1041, .int (iN (G (0) (zp)))]) (kr1 := (78, 76)) (h1 := zh) rfl ?_
    refine wp_iald  (z := 0) (j := 0) (n := 6) (v := iN (99)) rfl rfl (by omega) (by decide) (by decide) ((by decide)) ?_
    refine wp_lt (a := G (0) (zp)) (b := 99) rfl (by omega) (by omega) (fun b_31 => ?_) (fun b_31 => ?_)
    · refine wp_run (k := 6) (pc1 := 44) (l1 := [(0, .ref 0), (1, .int (iN (zp))), (2, .int (iN (G (0) (zp))))]) (st1 := [.int (iN ((G (0) (zp)) + (1))), .int (iN (0)), .int (iN (zp)), .ref 0]) (kr1 := (78, 76)) (h1 := zh) (Eq.trans (b := (some (44, [(0, .ref 0), (1, .int (iN (zp))), (2, .int (iN (G (0) (zp))))], [.int ((iN (G (0) (zp))) + (iN (1))), .int (iN (0)), .int (iN (zp)), .ref 0], (78, 76), zh) : Option am_C)) rfl (by simp only [Int32.ofInt_add, Int32.ofInt_sub, Int32.ofInt_mul, Int32.ofInt_neg])) ?_
      refine wp_call (md1 := am_m_Lp_planWith) (As := [.ref 0, .int (iN (zp)), .int (iN (0)), .int (iN ((G (0) (zp)) + (1)))]) (rest := []) (kr1 := (78, 76)) rfl (jt_planWith (zp := zp) (zw := 0) (zv := (G (0) (zp)) + (1)) _ (by omega) q_nm q_g q_t q_j (by omega) q_41 (by omega) (by omega) (by have y_v := (show vmax 0 = 99 from rfl); omega)) ?_
      rintro _ zg1 ⟨rfl, q_f1, q_t1, q_j1, q_c1, q_pl1⟩
      have y_1 := zEW_w y_0 q_t (by omega) (by omega) q_f1 q_t1 q_j1 q_c1
      have y_m1 := zMB_u q_pl1
      refine wp_call (md1 := am_m_Plan_cost) (As := [.ref 36]) (rest := []) (kr1 := (78, 76)) rfl (jg_Plan_cost_36 _ (by omega) y_m1.2.2) ?_
      rintro _ _ ⟨rfl, rfl⟩
      refine wp_run (k := 1) (pc1 := 51) (l1 := [(0, .ref 0), (1, .int (iN (zp))), (2, .int (iN (G (0) (zp))))]) (st1 := [.ref 0, .int (iN ((zPv (zG1 G 0 zp (G 0 zp + 1)) T N 0).1))]) (kr1 := (78, 76)) (h1 := zg1) rfl ?_
      refine wp_call (md1 := am_m_Lp_planNow) (As := [.ref 0]) (rest := [.int (iN ((zPv (zG1 G 0 zp (G 0 zp + 1)) T N 0).1))]) (kr1 := (78, 76)) rfl (jt_planNow (zs := zs) (zk := zk) _ (by omega) (zNm_f q_f1 q_nm (by decide) (by decide)) q_g y_1.2.2.2.1 ((congrFun (q_f1.2 1 (by decide)) 2).trans q_s) ((congrFun (q_f1.2 3 (by decide)) 1).trans q_k) q_r (fun y => zPlan_f_3 q_f1 (by decide) (q_old y))) ?_
      rintro _ zg2 ⟨rfl, q_f2, q_k2, q_pl2⟩
      have y_2 := zEW_p y_1 q_f2 q_k2 q_pl2 (by omega)
      refine wp_call (md1 := am_m_Plan_cost) (As := [.ref 3]) (rest := [.int (iN ((zPv (zG1 G 0 zp (G 0 zp + 1)) T N 0).1))]) (kr1 := (78, 76)) rfl (jg_Plan_cost_3 _ (by omega) q_pl2.2.2.1) ?_
      rintro _ _ ⟨rfl, rfl⟩
      refine wp_run (k := 1) (pc1 := 58) (l1 := [(0, .ref 0), (1, .int (iN (zp))), (2, .int (iN (G (0) (zp))))]) (st1 := [.int (iN (((zPv (zG1 G 0 zp (G 0 zp + 1)) T N 0).1) - ((zPv G T N 0).1)))]) (kr1 := (78, 76)) (h1 := zg2) (Eq.trans (b := (some (58, [(0, .ref 0), (1, .int (iN (zp))), (2, .int (iN (G (0) (zp))))], [.int ((iN ((zPv (zG1 G 0 zp (G 0 zp + 1)) T N 0).1)) - (iN ((zPv G T N 0).1)))], (78, 76), zg2) : Option am_C)) rfl (by simp only [Int32.ofInt_add, Int32.ofInt_sub, Int32.ofInt_mul, Int32.ofInt_neg])) ?_
      refine wp_ret (rv := some (.int (iN (((zPv (zG1 G 0 zp (G 0 zp + 1)) T N 0).1) - ((zPv G T N 0).1))))) rfl ?_
      refine ⟨?_, y_2⟩
      rw [show zVmore N G T zp = ((zPv (zG1 G 0 zp (G 0 zp + 1)) T N 0).1) - ((zPv G T N 0).1) from ?_]
      unfold zVmore
      (repeat' split) <;> first | rfl | omega | contradiction | (exfalso; omega) | (exfalso; rename_i y_x; exact absurd y_x.2.1 (by assumption)) | (exfalso; rename_i y_x; exact y_x ⟨by omega, by assumption, by omega⟩)
    · refine wp_run (k := 1) (pc1 := 37) (l1 := [(0, .ref 0), (1, .int (iN (zp))), (2, .int (iN (G (0) (zp))))]) (st1 := [.int (iN (-10000))]) (kr1 := (78, 76)) (h1 := zh) rfl ?_
      refine wp_ret (rv := some (.int (iN (-10000)))) rfl ?_
      refine ⟨?_, zEW_d y_0 (by omega)⟩
      rw [show zVmore N G T zp = -10000 from ?_]
      unfold zVmore
      (repeat' split) <;> first | rfl | omega | contradiction | (exfalso; omega) | (exfalso; rename_i y_x; exact absurd y_x.2.1 (by assumption)) | (exfalso; rename_i y_x; exact y_x ⟨by omega, by assumption, by omega⟩)
  · refine wp_run (k := 1) (pc1 := 14) (l1 := [(0, .ref 0), (1, .int (iN (zp)))]) (st1 := [.int (iN (-10000))]) (kr1 := (78, 76)) (h1 := zh) rfl ?_
    refine wp_ret (rv := some (.int (iN (-10000)))) rfl ?_
    refine ⟨?_, zEW_d y_0 (by omega)⟩
    rw [show zVmore N G T zp = -10000 from ?_]
    unfold zVmore
    (repeat' split) <;> first | rfl | omega | contradiction | (exfalso; omega) | (exfalso; rename_i y_x; exact absurd y_x.2.1 (by assumption)) | (exfalso; rename_i y_x; exact y_x ⟨by omega, by assumption, by omega⟩)
set_option maxRecDepth 20000 in
set_option maxHeartbeats 4000000 in
theorem jl_touched (zd : Nat) (q_d : 3 ≤ zd) {zh : am_H} {N : Int} {zA zB : Int → Int} {zp zv zw : Int} (q_ma : zHd (zh.1 49) zA 16) (q_mb : zHd (zh.1 16) zB 16) (q_ka : zHk N zA) (q_kb : zHk N zB) (q_N : 1 ≤ N ∧ N ≤ 16) (q_w : -2147483648 ≤ zw ∧ zw < 2147483648) {zQ : Option Value → am_H → Prop} (zk2 : ∀ zr : Int, zr = (if zw = 0 then (zTq zA zB N N.toNat).1 else (zTq zA zB N N.toNat).2) → zQ (some (.int (iN zr))) zh) : ∀ (z_n : Nat) (zi : Int) (zm : Int) (zf : Int) (q_i : -1 ≤ zi ∧ zi < N) (q_z : (zm, zf) = zTq zA zB N (N - 1 - zi).toNat), zi + 2 < (z_n : Int) → am_wp zd am_m_Lp_touched 82 [(0, .ref 0), (1, .int (iN (zp))), (2, .int (iN (zv))), (3, .int (iN (zw))), (4, .ref 3), (5, .ref 36), (6, .int (iN (zm))), (7, .int (iN (zf))), (8, .int (iN (zi)))] [] (78, 76) zh (78, 76) zQ := by
  obtain ⟨zd, rfl⟩ : ∃ y_e, zd = y_e + 3 := ⟨zd - 3, by omega⟩
  intro z_n
  induction z_n with
  | zero => intro zi zm zf q_i q_z q_m; omega
  | succ z_n z_ih =>
    intro zi zm zf q_i q_z q_m
    refine wp_run (k := 1) (pc1 := 84) (l1 := [(0, .ref 0), (1, .int (iN (zp))), (2, .int (iN (zv))), (3, .int (iN (zw))), (4, .ref 3), (5, .ref 36), (6, .int (iN (zm))), (7, .int (iN (zf))), (8, .int (iN (zi)))]) (st1 := [.int (iN (zi))]) (kr1 := (78, 76)) (h1 := zh) rfl ?_
    refine wp_lt0 (a := zi) rfl (by omega) (fun b_84 => ?_) (fun b_84 => ?_)
    · refine wp_run (k := 1) (pc1 := 118) (l1 := [(0, .ref 0), (1, .int (iN (zp))), (2, .int (iN (zv))), (3, .int (iN (zw))), (4, .ref 3), (5, .ref 36), (6, .int (iN (zm))), (7, .int (iN (zf))), (8, .int (iN (zi)))]) (st1 := [.int (iN (zw))]) (kr1 := (78, 76)) (h1 := zh) rfl ?_
      refine wp_ne0 (a := zw) rfl (by omega) (fun b_118 => ?_) (fun b_118 => ?_)
      · refine wp_run (k := 1) (pc1 := 128) (l1 := [(0, .ref 0), (1, .int (iN (zp))), (2, .int (iN (zv))), (3, .int (iN (zw))), (4, .ref 3), (5, .ref 36), (6, .int (iN (zm))), (7, .int (iN (zf))), (8, .int (iN (zi)))]) (st1 := [.int (iN (zf))]) (kr1 := (78, 76)) (h1 := zh) rfl ?_
        refine wp_ret (rv := some (.int (iN (zf)))) rfl ?_
        refine zk2 _ ?_
        rw [show N - 1 - zi = N by omega] at q_z
        rw [← q_z]
        exact (if_neg (by omega)).symm
      · refine wp_run (k := 2) (pc1 := 128) (l1 := [(0, .ref 0), (1, .int (iN (zp))), (2, .int (iN (zv))), (3, .int (iN (zw))), (4, .ref 3), (5, .ref 36), (6, .int (iN (zm))), (7, .int (iN (zf))), (8, .int (iN (zi)))]) (st1 := [.int (iN (zm))]) (kr1 := (78, 76)) (h1 := zh) rfl ?_
        refine wp_ret (rv := some (.int (iN (zm)))) rfl ?_
        refine zk2 _ ?_
        rw [show N - 1 - zi = N by omega] at q_z
        rw [← q_z]
        exact (if_pos (by omega)).symm
    · have y_A := zHk_b q_ka zi (by omega)
      have y_B := zHk_b q_kb zi (by omega)
      refine wp_run (k := 2) (pc1 := 91) (l1 := [(0, .ref 0), (1, .int (iN (zp))), (2, .int (iN (zv))), (3, .int (iN (zw))), (4, .ref 3), (5, .ref 36), (6, .int (iN (zm))), (7, .int (iN (zf))), (8, .int (iN (zi)))]) (st1 := [.int (iN (zi)), .ref 36]) (kr1 := (78, 76)) (h1 := zh) rfl ?_
      refine wp_call (md1 := am_m_Plan_made) (As := [.ref 36, .int (iN (zi))]) (rest := []) (kr1 := (78, 76)) rfl (jg_Plan_made_36 _ (by omega) (zp := zi) (by omega) (q_ma (zi) (by omega) (by omega))) ?_
      rintro _ _ ⟨rfl, rfl⟩
      refine wp_run (k := 2) (pc1 := 98) (l1 := [(0, .ref 0), (1, .int (iN (zp))), (2, .int (iN (zv))), (3, .int (iN (zw))), (4, .ref 3), (5, .ref 36), (6, .int (iN (zm))), (7, .int (iN (zf))), (8, .int (iN (zi)))]) (st1 := [.int (iN (zi)), .ref 3, .int (iN (zA (zi)))]) (kr1 := (78, 76)) (h1 := zh) rfl ?_
      refine wp_call (md1 := am_m_Plan_made) (As := [.ref 3, .int (iN (zi))]) (rest := [.int (iN (zA (zi)))]) (kr1 := (78, 76)) rfl (jg_Plan_made_3 _ (by omega) (zp := zi) (by omega) (q_mb (zi) (by omega) (by omega))) ?_
      rintro _ _ ⟨rfl, rfl⟩
      refine wp_eq (a := zA (zi)) (b := zB (zi)) rfl (by omega) (by omega) (fun b_101 => ?_) (fun b_101 => ?_)
      · refine wp_run (k := 2) (pc1 := 82) (l1 := [(0, .ref 0), (1, .int (iN (zp))), (2, .int (iN (zv))), (3, .int (iN (zw))), (4, .ref 3), (5, .ref 36), (6, .int (iN (zm))), (7, .int (iN (zf))), (8, .int (iN ((zi) + (-1))))]) (st1 := []) (kr1 := (78, 76)) (h1 := zh) (Eq.trans (b := (some (82, [(0, .ref 0), (1, .int (iN (zp))), (2, .int (iN (zv))), (3, .int (iN (zw))), (4, .ref 3), (5, .ref 36), (6, .int (iN (zm))), (7, .int (iN (zf))), (8, .int ((iN (zi)) + iN (-1)))], [], (78, 76), zh) : Option am_C)) rfl (by simp only [Int32.ofInt_add, Int32.ofInt_sub, Int32.ofInt_mul, Int32.ofInt_neg])) ?_
        refine z_ih (zi + (-1)) (zm) (zf) (by omega) ?_ (by omega)
        rw [show N - 1 - (zi + (-1)) = N - zi by omega, zTq_s zA zB N zi (by omega), if_pos (by omega), ← q_z]
      · refine wp_run (k := 5) (pc1 := 82) (l1 := [(0, .ref 0), (1, .int (iN (zp))), (2, .int (iN (zv))), (3, .int (iN (zw))), (4, .ref 3), (5, .ref 36), (6, .int (iN ((zm) + 1))), (7, .int (iN (zi))), (8, .int (iN ((zi) + (-1))))]) (st1 := []) (kr1 := (78, 76)) (h1 := zh) (Eq.trans (b := (some (82, [(0, .ref 0), (1, .int (iN (zp))), (2, .int (iN (zv))), (3, .int (iN (zw))), (4, .ref 3), (5, .ref 36), (6, .int ((iN (zm)) + iN (1))), (7, .int (iN (zi))), (8, .int ((iN (zi)) + iN (-1)))], [], (78, 76), zh) : Option am_C)) rfl (by simp only [Int32.ofInt_add, Int32.ofInt_sub, Int32.ofInt_mul, Int32.ofInt_neg])) ?_
        refine z_ih (zi + (-1)) ((zm) + 1) (zi) (by omega) ?_ (by omega)
        rw [show N - 1 - (zi + (-1)) = N - zi by omega, zTq_s zA zB N zi (by omega), if_neg (by omega), ← q_z]
set_option maxRecDepth 20000 in
set_option maxHeartbeats 4000000 in
theorem jL_touched (zd : Nat) (q_d : 7 ≤ zd) {zh : am_H} {N : Int} {G : Int → Int → Int} {S T zs zk zt zj : Int} {zp zv zw : Int} (q_nm : zNm (zh.1 1) (zh.1 2) N G S T) (q_g : zGk N G S T) (q_a0 : zh.1 8 0 = iN 0) (q_s : zh.1 1 2 = iN zs) (q_k : zh.1 3 1 = iN zk) (q_r : 0 ≤ zs ∧ zs < 2147483648 ∧ 0 ≤ zk ∧ zk < 2147483648) (q_old : zk = zs → zPlan_3 zh N G T) (q_t : zh.1 34 2 = iN zt) (q_j : zh.1 36 1 = iN zj) (q_tr : 0 ≤ zj ∧ zj ≤ zt ∧ zt < 2147480000) (q_41 : zh.1 41 0 = iN 0) (q_zpr : -2147483648 ≤ zp ∧ zp < 2147483648) (q_zvr : -2147483648 ≤ zv ∧ zv < 2147483648) (q_zwr : -2147483648 ≤ zw ∧ zw < 2147483648) : am_wp zd am_m_Lp_touched 0 [(0, .ref 0), (1, .int (iN (zp))), (2, .int (iN (zv))), (3, .int (iN (zw)))] [] (78, 76) zh (78, 76) (fun rv h' => rv = some (.int (iN (zVtou N G T zp zv zw))) ∧ zEW zh h' zs zk zt 2 N G T) := by
  obtain ⟨zd, rfl⟩ : ∃ y_e, zd = y_e + 7 := ⟨zd - 7, by omega⟩
  have q_N := q_g.1
  have y_0 := zEW_0 (zs := zs) (G := G) (T := T) (N := N) q_t q_j ⟨q_tr.1, q_tr.2.1⟩ q_41 q_a0 q_k q_old
  refine wp_run (k := 3) (pc1 := 5) (l1 := [(0, .ref 0), (1, .int (iN (zp))), (2, .int (iN (zv))), (3, .int (iN (zw)))]) (st1 := [.int (iN (zp)), .ref 1]) (kr1 := (78, 76)) (h1 := zh) rfl ?_
  refine wp_call (md1 := am_m_Numbers_has) (As := [.ref 1, .int (iN (zp))]) (rest := []) (kr1 := (78, 76)) rfl (jt_has_1 _ (by omega) q_nm q_g (zp := zp) (by omega)) ?_
  rintro _ _ ⟨rfl, rfl⟩
  refine wp_eqb rfl (fun b_8 => ?_) (fun b_8 => ?_)
  · refine wp_run (k := 1) (pc1 := 31) (l1 := [(0, .ref 0), (1, .int (iN (zp))), (2, .int (iN (zv))), (3, .int (iN (zw)))]) (st1 := [.int (iN (-10000))]) (kr1 := (78, 76)) (h1 := zh) rfl ?_
    refine wp_ret (rv := some (.int (iN (-10000)))) rfl ?_
    refine ⟨?_, zEW_d y_0 (by omega)⟩
    have y_v := (show vmax 0 = 99 from rfl)
    rw [show zVtou N G T zp zv zw = -10000 from ?_]
    unfold zVtou
    (repeat' split) <;> first | rfl | omega | contradiction | (exfalso; omega) | (exfalso; rename_i y_x; exact absurd y_x.2.1 (by assumption)) | (exfalso; rename_i y_x; exact y_x ⟨by omega, by assumption, by omega⟩)
  · refine wp_run (k := 2) (pc1 := 13) (l1 := [(0, .ref 0), (1, .int (iN (zp))), (2, .int (iN (zv))), (3, .int (iN (zw)))]) (st1 := [.int (iN (zv)), .int (iN (0))]) (kr1 := (78, 76)) (h1 := zh) rfl ?_
    refine wp_call (md1 := am_m_Lp_mayBe) (As := [.int (iN (0)), .int (iN (zv))]) (rest := []) (kr1 := (78, 76)) rfl (jt_mayBe _ (by omega) (zw := 0) (zv := zv) (by omega) (by omega)) ?_
    rintro _ _ ⟨rfl, rfl⟩
    refine wp_eqb rfl (fun b_16 => ?_) (fun b_16 => ?_)
    · refine wp_run (k := 1) (pc1 := 31) (l1 := [(0, .ref 0), (1, .int (iN (zp))), (2, .int (iN (zv))), (3, .int (iN (zw)))]) (st1 := [.int (iN (-10000))]) (kr1 := (78, 76)) (h1 := zh) rfl ?_
      refine wp_ret (rv := some (.int (iN (-10000)))) rfl ?_
      refine ⟨?_, zEW_d y_0 (by omega)⟩
      have y_v := (show vmax 0 = 99 from rfl)
      rw [show zVtou N G T zp zv zw = -10000 from ?_]
      unfold zVtou
      (repeat' split) <;> first | rfl | omega | contradiction | (exfalso; omega) | (exfalso; rename_i y_x; exact absurd y_x.2.1 (by assumption)) | (exfalso; rename_i y_x; exact y_x ⟨by omega, by assumption, by omega⟩)
    · have y_vm := (show vmax 0 = 99 from rfl)
      refine wp_run (k := 1) (pc1 := 20) (l1 := [(0, .ref 0), (1, .int (iN (zp))), (2, .int (iN (zv))), (3, .int (iN (zw)))]) (st1 := [.int (iN (zw))]) (kr1 := (78, 76)) (h1 := zh) rfl ?_
      refine wp_lt0 (a := zw) rfl (by omega) (fun b_20 => ?_) (fun b_20 => ?_)
      · refine wp_run (k := 1) (pc1 := 31) (l1 := [(0, .ref 0), (1, .int (iN (zp))), (2, .int (iN (zv))), (3, .int (iN (zw)))]) (st1 := [.int (iN (-10000))]) (kr1 := (78, 76)) (h1 := zh) rfl ?_
        refine wp_ret (rv := some (.int (iN (-10000)))) rfl ?_
        refine ⟨?_, zEW_d y_0 (by omega)⟩
        have y_v := (show vmax 0 = 99 from rfl)
        rw [show zVtou N G T zp zv zw = -10000 from ?_]
        unfold zVtou
        (repeat' split) <;> first | rfl | omega | contradiction | (exfalso; omega) | (exfalso; rename_i y_x; exact absurd y_x.2.1 (by assumption)) | (exfalso; rename_i y_x; exact y_x ⟨by omega, by assumption, by omega⟩)
      · refine wp_run (k := 2) (pc1 := 25) (l1 := [(0, .ref 0), (1, .int (iN (zp))), (2, .int (iN (zv))), (3, .int (iN (zw)))]) (st1 := [.int (iN (2)), .int (iN (zw))]) (kr1 := (78, 76)) (h1 := zh) rfl ?_
        refine wp_le (a := zw) (b := 2) rfl (by omega) (by omega) (fun b_25 => ?_) (fun b_25 => ?_)
        · refine wp_run (k := 1) (pc1 := 33) (l1 := [(0, .ref 0), (1, .int (iN (zp))), (2, .int (iN (zv))), (3, .int (iN (zw)))]) (st1 := [.ref 0]) (kr1 := (78, 76)) (h1 := zh) rfl ?_
          refine wp_call (md1 := am_m_Lp_planNow) (As := [.ref 0]) (rest := []) (kr1 := (78, 76)) rfl (jt_planNow _ (by omega) q_nm q_g q_a0 q_s q_k q_r q_old) ?_
          rintro _ zg1 ⟨rfl, q_f1, q_k1, q_pl1⟩
          have q_tk := zTook_k q_pl1.2.1
          have q_nm1 := zNm_f q_f1 q_nm (by decide) (by decide)
          have y_1 := zEW_p y_0 q_f1 q_k1 q_pl1 (by omega)
          refine wp_run (k := 5) (pc1 := 42) (l1 := [(0, .ref 0), (1, .int (iN (zp))), (2, .int (iN (zv))), (3, .int (iN (zw))), (4, .ref 3)]) (st1 := [.int (iN (zv)), .int (iN (0)), .int (iN (zp)), .ref 0]) (kr1 := (78, 76)) (h1 := zg1) rfl ?_
          refine wp_call (md1 := am_m_Lp_planWith) (As := [.ref 0, .int (iN (zp)), .int (iN (0)), .int (iN (zv))]) (rest := []) (kr1 := (78, 76)) rfl (jt_planWith (zp := zp) (zw := 0) (zv := zv) _ (by omega) q_nm1 q_g ((congrFun (q_f1.2 34 (by decide)) 2).trans q_t) ((congrFun (q_f1.2 36 (by decide)) 1).trans q_j) (by omega) ((congrFun (q_f1.2 41 (by decide)) 0).trans q_41) (by omega) (by omega) (by have y_v := (show vmax 0 = 99 from rfl); omega)) ?_
          rintro _ zg2 ⟨rfl, q_f2, q_t2, q_j2, q_c2, q_pl2⟩
          have y_2 := zEW_w y_1 ((congrFun (q_f1.2 34 (by decide)) 2).trans q_t) (by omega) (by omega) q_f2 q_t2 q_j2 q_c2
          have y_m1 := zMB_u q_pl2
          have q_pl3 := zPlan_f_3 q_f2 (by decide) q_pl1
          have q_tk3 := zTook_k q_pl3.2.1
          have q_nm2 := zNm_f q_f2 q_nm1 (by decide) (by decide)
          refine wp_run (k := 3) (pc1 := 49) (l1 := [(0, .ref 0), (1, .int (iN (zp))), (2, .int (iN (zv))), (3, .int (iN (zw))), (4, .ref 3), (5, .ref 36)]) (st1 := [.int (iN (2)), .int (iN (zw))]) (kr1 := (78, 76)) (h1 := zg2) rfl ?_
          refine wp_ne (a := zw) (b := 2) rfl (by omega) (by omega) (fun b_49 => ?_) (fun b_49 => ?_)
          · refine wp_run (k := 6) (pc1 := 75) (l1 := [(0, .ref 0), (1, .int (iN (zp))), (2, .int (iN (zv))), (3, .int (iN (zw))), (4, .ref 3), (5, .ref 36), (6, .int (iN (0))), (7, .int (iN (-2)))]) (st1 := [.ref 1]) (kr1 := (78, 76)) (h1 := zg2) rfl ?_
            refine wp_call (md1 := am_m_Numbers_size) (As := [.ref 1]) (rest := []) (kr1 := (78, 76)) rfl (jt_size_1 _ (by omega) q_nm2 q_g) ?_
            rintro _ _ ⟨rfl, rfl⟩
            refine wp_run (k := 3) (pc1 := 82) (l1 := [(0, .ref 0), (1, .int (iN (zp))), (2, .int (iN (zv))), (3, .int (iN (zw))), (4, .ref 3), (5, .ref 36), (6, .int (iN (0))), (7, .int (iN (-2))), (8, .int (iN ((N) - (1))))]) (st1 := []) (kr1 := (78, 76)) (h1 := zg2) (Eq.trans (b := (some (82, [(0, .ref 0), (1, .int (iN (zp))), (2, .int (iN (zv))), (3, .int (iN (zw))), (4, .ref 3), (5, .ref 36), (6, .int (iN (0))), (7, .int (iN (-2))), (8, .int ((iN (N)) - (iN (1))))], [], (78, 76), zg2) : Option am_C)) rfl (by simp only [Int32.ofInt_add, Int32.ofInt_sub, Int32.ofInt_mul, Int32.ofInt_neg])) ?_
            refine jl_touched (zh := zg2) (zA := zMB (zG1 G 0 zp zv) T N) (zB := zMB G T N) _ (by omega) y_m1.2.1 q_tk3.2.2.2.1 (zMB_hk (zGk_up q_g (by have y_v := (show vmax 0 = 99 from rfl); omega))) (zMB_hk q_g) q_N q_zwr (fun zr q_v => ⟨?_, y_2⟩) 18 (N - 1) 0 (-2) (by omega) (by rw [show (N - 1 - (N - 1)).toNat = 0 by omega]; rfl) (by omega)
            rw [q_v, show zVtou N G T zp zv zw = (if zw = 0 then _ else _) from (if_neg (by omega)).trans (if_neg (by omega))]
          · refine wp_run (k := 1) (pc1 := 54) (l1 := [(0, .ref 0), (1, .int (iN (zp))), (2, .int (iN (zv))), (3, .int (iN (zw))), (4, .ref 3), (5, .ref 36)]) (st1 := [.ref 36]) (kr1 := (78, 76)) (h1 := zg2) rfl ?_
            refine wp_call (md1 := am_m_Plan_cost) (As := [.ref 36]) (rest := []) (kr1 := (78, 76)) rfl (jg_Plan_cost_36 _ (by omega) y_m1.2.2) ?_
            rintro _ _ ⟨rfl, rfl⟩
            refine wp_run (k := 1) (pc1 := 59) (l1 := [(0, .ref 0), (1, .int (iN (zp))), (2, .int (iN (zv))), (3, .int (iN (zw))), (4, .ref 3), (5, .ref 36)]) (st1 := [.ref 3, .int (iN ((zPv (zG1 G 0 zp zv) T N 0).1))]) (kr1 := (78, 76)) (h1 := zg2) rfl ?_
            refine wp_call (md1 := am_m_Plan_cost) (As := [.ref 3]) (rest := [.int (iN ((zPv (zG1 G 0 zp zv) T N 0).1))]) (kr1 := (78, 76)) rfl (jg_Plan_cost_3 _ (by omega) q_pl3.2.2.1) ?_
            rintro _ _ ⟨rfl, rfl⟩
            refine wp_run (k := 1) (pc1 := 63) (l1 := [(0, .ref 0), (1, .int (iN (zp))), (2, .int (iN (zv))), (3, .int (iN (zw))), (4, .ref 3), (5, .ref 36)]) (st1 := [.int (iN (((zPv (zG1 G 0 zp zv) T N 0).1) - ((zPv G T N 0).1)))]) (kr1 := (78, 76)) (h1 := zg2) (Eq.trans (b := (some (63, [(0, .ref 0), (1, .int (iN (zp))), (2, .int (iN (zv))), (3, .int (iN (zw))), (4, .ref 3), (5, .ref 36)], [.int ((iN ((zPv (zG1 G 0 zp zv) T N 0).1)) - (iN ((zPv G T N 0).1)))], (78, 76), zg2) : Option am_C)) rfl (by simp only [Int32.ofInt_add, Int32.ofInt_sub, Int32.ofInt_mul, Int32.ofInt_neg])) ?_
            refine wp_ret (rv := some (.int (iN (((zPv (zG1 G 0 zp zv) T N 0).1) - ((zPv G T N 0).1))))) rfl ?_
            refine ⟨?_, y_2⟩
            have y_v := (show vmax 0 = 99 from rfl)
            rw [show zVtou N G T zp zv zw = ((zPv (zG1 G 0 zp zv) T N 0).1) - ((zPv G T N 0).1) from ?_]
            unfold zVtou
            (repeat' split) <;> first | rfl | omega | contradiction | (exfalso; omega) | (exfalso; rename_i y_x; exact absurd y_x.2.1 (by assumption)) | (exfalso; rename_i y_x; exact y_x ⟨by omega, by assumption, by omega⟩)
        · refine wp_run (k := 1) (pc1 := 31) (l1 := [(0, .ref 0), (1, .int (iN (zp))), (2, .int (iN (zv))), (3, .int (iN (zw)))]) (st1 := [.int (iN (-10000))]) (kr1 := (78, 76)) (h1 := zh) rfl ?_
          refine wp_ret (rv := some (.int (iN (-10000)))) rfl ?_
          refine ⟨?_, zEW_d y_0 (by omega)⟩
          have y_v := (show vmax 0 = 99 from rfl)
          rw [show zVtou N G T zp zv zw = -10000 from ?_]
          unfold zVtou
          (repeat' split) <;> first | rfl | omega | contradiction | (exfalso; omega) | (exfalso; rename_i y_x; exact absurd y_x.2.1 (by assumption)) | (exfalso; rename_i y_x; exact y_x ⟨by omega, by assumption, by omega⟩)
set_option maxRecDepth 20000 in
set_option maxHeartbeats 4000000 in
theorem jl_keeps (zd : Nat) (q_d : 7 ≤ zd) {zh : am_H} {N : Int} {G : Int → Int → Int} {S T zs zk zt : Int} {zp zR : Int} (q_g : zGk N G S T) (q_p : 0 ≤ zp ∧ zp < N) (q_tr : 0 ≤ zt ∧ zt < 2147480000) {zQ : Option Value → am_H → Prop} (zk2 : ∀ (zg : am_H) (zr : Int), zEW zh zg zs zk zt 20 N G T → zr = zR → zQ (some (.int (iN zr))) zg) : ∀ (z_n : Nat) (zg : am_H) (zlo : Int) (zhi : Int) (zi : Int) (zf : Nat) (q_e : zEW zh zg zs zk zt (2 * zi) N G T) (q_nmk : zNm (zg.1 1) (zg.1 2) N G S T) (q_i : 0 ≤ zi ∧ zi ≤ 10 ∧ (zf : Int) = 10 - zi) (q_l : 0 ≤ zlo ∧ zlo ≤ 999 ∧ zlo - 1 ≤ zhi ∧ zhi ≤ 999) (q_z : zKe G T N zp zf zlo zhi = zR), 11 - zi < (z_n : Int) → am_wp zd am_m_Lp_keeps 46 [(0, .ref 0), (1, .int (iN (zp))), (2, .int (iN (zlo))), (3, .int (iN (zhi))), (4, .int (iN (zi)))] [] (78, 76) zg (78, 76) zQ := by
  obtain ⟨zd, rfl⟩ : ∃ y_e, zd = y_e + 7 := ⟨zd - 7, by omega⟩
  intro z_n
  induction z_n with
  | zero => intro zg zlo zhi zi zf q_e q_nmk q_i q_l q_z q_m; omega
  | succ z_n z_ih =>
    intro zg zlo zhi zi zf q_e q_nmk q_i q_l q_z q_m
    have q_N := q_g.1
    refine wp_run (k := 2) (pc1 := 50) (l1 := [(0, .ref 0), (1, .int (iN (zp))), (2, .int (iN (zlo))), (3, .int (iN (zhi))), (4, .int (iN (zi)))]) (st1 := [.int (iN (10)), .int (iN (zi))]) (kr1 := (78, 76)) (h1 := zg) rfl ?_
    refine wp_ge (a := zi) (b := 10) rfl (by omega) (by omega) (fun b_50 => ?_) (fun b_50 => ?_)
    · refine wp_run (k := 1) (pc1 := 100) (l1 := [(0, .ref 0), (1, .int (iN (zp))), (2, .int (iN (zlo))), (3, .int (iN (zhi))), (4, .int (iN (zi)))]) (st1 := [.int (iN (zlo))]) (kr1 := (78, 76)) (h1 := zg) rfl ?_
      refine wp_ret (rv := some (.int (iN (zlo)))) rfl ?_
      refine zk2 zg _ (zEW_d q_e (by omega)) ?_
      rw [← q_z]
      cases zf with
      | zero => rfl
      | succ zf => exact (if_neg (by omega)).symm
    · refine wp_run (k := 2) (pc1 := 55) (l1 := [(0, .ref 0), (1, .int (iN (zp))), (2, .int (iN (zlo))), (3, .int (iN (zhi))), (4, .int (iN (zi)))]) (st1 := [.int (iN (zhi)), .int (iN (zlo))]) (kr1 := (78, 76)) (h1 := zg) rfl ?_
      refine wp_ge (a := zlo) (b := zhi) rfl (by omega) (by omega) (fun b_55 => ?_) (fun b_55 => ?_)
      · refine wp_run (k := 1) (pc1 := 100) (l1 := [(0, .ref 0), (1, .int (iN (zp))), (2, .int (iN (zlo))), (3, .int (iN (zhi))), (4, .int (iN (zi)))]) (st1 := [.int (iN (zlo))]) (kr1 := (78, 76)) (h1 := zg) rfl ?_
        refine wp_ret (rv := some (.int (iN (zlo)))) rfl ?_
        refine zk2 zg _ (zEW_d q_e (by omega)) ?_
        rw [← q_z]
        cases zf with
        | zero => rfl
        | succ zf => exact (if_neg (by omega)).symm
      · refine wp_run (k := 6) (pc1 := 64) (l1 := [(0, .ref 0), (1, .int (iN (zp))), (2, .int (iN (zlo))), (3, .int (iN (zhi))), (4, .int (iN (zi)))]) (st1 := [.int (iN (2)), .int (iN (((zlo) + (zhi)) + (1)))]) (kr1 := (78, 76)) (h1 := zg) (Eq.trans (b := (some (64, [(0, .ref 0), (1, .int (iN (zp))), (2, .int (iN (zlo))), (3, .int (iN (zhi))), (4, .int (iN (zi)))], [.int (iN (2)), .int (((iN (zlo)) + (iN (zhi))) + (iN (1)))], (78, 76), zg) : Option am_C)) rfl (by simp only [Int32.ofInt_add, Int32.ofInt_sub, Int32.ofInt_mul, Int32.ofInt_neg])) ?_
        refine wp_divn (a := ((zlo) + (zhi)) + (1)) (b := 2) rfl (by omega) (by omega) ?_
        obtain ⟨zm, y_m⟩ : ∃ zm : Int, (zlo + zhi + 1) / 2 = zm := ⟨_, rfl⟩
        rw [show (((zlo) + (zhi)) + (1)) / (2) = zm by rw [← y_m]]
        obtain ⟨zu, zj2, q_tk, q_jk, q_u1, q_u2, q_u3, q_u4⟩ := q_e.2.1
        refine wp_run (k := 5) (pc1 := 72) (l1 := [(0, .ref 0), (1, .int (iN (zp))), (2, .int (iN (zlo))), (3, .int (iN (zhi))), (4, .int (iN (zi))), (5, .int (iN (zm)))]) (st1 := [.int (iN (zm)), .int (iN (1)), .int (iN (zp)), .ref 0]) (kr1 := (78, 76)) (h1 := zg) rfl ?_
        refine wp_call (md1 := am_m_Lp_planWith) (As := [.ref 0, .int (iN (zp)), .int (iN (1)), .int (iN (zm))]) (rest := []) (kr1 := (78, 76)) rfl (jt_planWith (zp := zp) (zw := 1) (zv := zm) _ (by omega) q_nmk q_g q_tk q_jk (by omega) q_e.2.2.1 (by omega) (by omega) (by have y_v := (show vmax 1 = 999 from rfl); omega)) ?_
        rintro _ zg1 ⟨rfl, q_f1, q_t1, q_j1, q_c1, q_pl1⟩
        have y_1 := zEW_w q_e q_tk (by omega) (by omega) q_f1 q_t1 q_j1 q_c1
        have y_m1 := zMB_u q_pl1
        have y_mk := zHk_b (zMB_hk (zGk_up (zw := 1) (zp := zp) (zv := zm) q_g (by have y_v := (show vmax 1 = 999 from rfl); omega)) (T := T)) zp (by omega)
        refine wp_run (k := 1) (pc1 := 76) (l1 := [(0, .ref 0), (1, .int (iN (zp))), (2, .int (iN (zlo))), (3, .int (iN (zhi))), (4, .int (iN (zi))), (5, .int (iN (zm)))]) (st1 := [.int (iN (zp)), .ref 36]) (kr1 := (78, 76)) (h1 := zg1) rfl ?_
        refine wp_call (md1 := am_m_Plan_made) (As := [.ref 36, .int (iN (zp))]) (rest := []) (kr1 := (78, 76)) rfl (jg_Plan_made_36 _ (by omega) (zp := zp) (by omega) (y_m1.2.1 zp (by omega) (by omega))) ?_
        rintro _ _ ⟨rfl, rfl⟩
        refine wp_le0 (a := zMB (zG1 G 1 zp zm) T N zp) rfl (by omega) (fun b_79 => ?_) (fun b_79 => ?_)
        · refine wp_run (k := 6) (pc1 := 46) (l1 := [(0, .ref 0), (1, .int (iN (zp))), (2, .int (iN (zlo))), (3, .int (iN ((zm) - (1)))), (4, .int (iN ((zi) + 1))), (5, .int (iN (zm)))]) (st1 := []) (kr1 := (78, 76)) (h1 := zg1) (Eq.trans (b := (some (46, [(0, .ref 0), (1, .int (iN (zp))), (2, .int (iN (zlo))), (3, .int ((iN (zm)) - (iN (1)))), (4, .int ((iN (zi)) + iN (1))), (5, .int (iN (zm)))], [], (78, 76), zg1) : Option am_C)) rfl (by simp only [Int32.ofInt_add, Int32.ofInt_sub, Int32.ofInt_mul, Int32.ofInt_neg])) ?_
          refine wp_drop [5] (l := [(0, .ref 0), (1, .int (iN (zp))), (2, .int (iN (zlo))), (3, .int (iN ((zm) - (1)))), (4, .int (iN ((zi) + 1)))]) rfl rfl ?_
          obtain ⟨zf1, y_k⟩ : ∃ y, zf = y + 1 := ⟨zf - 1, by omega⟩
          subst y_k
          refine z_ih zg1 (zlo) ((zm) - (1)) ((zi) + 1) zf1 (zEW_d y_1 (by omega)) (zNm_f q_f1 q_nmk (by decide) (by decide)) (by omega) (by omega) ?_ (by omega)
          rw [← q_z]
          show _ = (if zlo < zhi then (if 0 < zMB (zG1 G 1 zp ((zlo + zhi + 1) / 2)) T N zp then zKe G T N zp zf1 ((zlo + zhi + 1) / 2) zhi else zKe G T N zp zf1 zlo ((zlo + zhi + 1) / 2 - 1)) else zlo)
          rw [y_m, if_pos (by omega), if_neg (by omega)]
        · refine wp_run (k := 5) (pc1 := 46) (l1 := [(0, .ref 0), (1, .int (iN (zp))), (2, .int (iN (zm))), (3, .int (iN (zhi))), (4, .int (iN ((zi) + 1))), (5, .int (iN (zm)))]) (st1 := []) (kr1 := (78, 76)) (h1 := zg1) (Eq.trans (b := (some (46, [(0, .ref 0), (1, .int (iN (zp))), (2, .int (iN (zm))), (3, .int (iN (zhi))), (4, .int ((iN (zi)) + iN (1))), (5, .int (iN (zm)))], [], (78, 76), zg1) : Option am_C)) rfl (by simp only [Int32.ofInt_add, Int32.ofInt_sub, Int32.ofInt_mul, Int32.ofInt_neg])) ?_
          refine wp_drop [5] (l := [(0, .ref 0), (1, .int (iN (zp))), (2, .int (iN (zm))), (3, .int (iN (zhi))), (4, .int (iN ((zi) + 1)))]) rfl rfl ?_
          obtain ⟨zf1, y_k⟩ : ∃ y, zf = y + 1 := ⟨zf - 1, by omega⟩
          subst y_k
          refine z_ih zg1 (zm) (zhi) ((zi) + 1) zf1 (zEW_d y_1 (by omega)) (zNm_f q_f1 q_nmk (by decide) (by decide)) (by omega) (by omega) ?_ (by omega)
          rw [← q_z]
          show _ = (if zlo < zhi then (if 0 < zMB (zG1 G 1 zp ((zlo + zhi + 1) / 2)) T N zp then zKe G T N zp zf1 ((zlo + zhi + 1) / 2) zhi else zKe G T N zp zf1 zlo ((zlo + zhi + 1) / 2 - 1)) else zlo)
          rw [y_m, if_pos (by omega), if_pos (by omega)]
set_option maxRecDepth 20000 in
set_option maxHeartbeats 4000000 in
theorem jL_keeps (zd : Nat) (q_d : 7 ≤ zd) {zh : am_H} {N : Int} {G : Int → Int → Int} {S T zs zk zt zj : Int} {zp : Int} (q_nm : zNm (zh.1 1) (zh.1 2) N G S T) (q_g : zGk N G S T) (q_a0 : zh.1 8 0 = iN 0) (q_s : zh.1 1 2 = iN zs) (q_k : zh.1 3 1 = iN zk) (q_r : 0 ≤ zs ∧ zs < 2147483648 ∧ 0 ≤ zk ∧ zk < 2147483648) (q_old : zk = zs → zPlan_3 zh N G T) (q_t : zh.1 34 2 = iN zt) (q_j : zh.1 36 1 = iN zj) (q_tr : 0 ≤ zj ∧ zj ≤ zt ∧ zt < 2147480000) (q_41 : zh.1 41 0 = iN 0) (q_zpr : -2147483648 ≤ zp ∧ zp < 2147483648) : am_wp zd am_m_Lp_keeps 0 [(0, .ref 0), (1, .int (iN (zp)))] [] (78, 76) zh (78, 76) (fun rv h' => rv = some (.int (iN (zVkeep N G T zp))) ∧ zEW zh h' zs zk zt 20 N G T) := by
  obtain ⟨zd, rfl⟩ : ∃ y_e, zd = y_e + 7 := ⟨zd - 7, by omega⟩
  have q_N := q_g.1
  have y_0 := zEW_0 (zs := zs) (G := G) (T := T) (N := N) q_t q_j ⟨q_tr.1, q_tr.2.1⟩ q_41 q_a0 q_k q_old
  refine wp_run (k := 3) (pc1 := 5) (l1 := [(0, .ref 0), (1, .int (iN (zp)))]) (st1 := [.int (iN (zp)), .ref 1]) (kr1 := (78, 76)) (h1 := zh) rfl ?_
  refine wp_call (md1 := am_m_Numbers_has) (As := [.ref 1, .int (iN (zp))]) (rest := []) (kr1 := (78, 76)) rfl (jt_has_1 _ (by omega) q_nm q_g (zp := zp) (by omega)) ?_
  rintro _ _ ⟨rfl, rfl⟩
  refine wp_neb rfl (fun b_8 => ?_) (fun b_8 => ?_)
  · refine wp_run (k := 1) (pc1 := 14) (l1 := [(0, .ref 0), (1, .int (iN (zp)))]) (st1 := [.ref 0]) (kr1 := (78, 76)) (h1 := zh) rfl ?_
    refine wp_call (md1 := am_m_Lp_planNow) (As := [.ref 0]) (rest := []) (kr1 := (78, 76)) rfl (jt_planNow _ (by omega) q_nm q_g q_a0 q_s q_k q_r q_old) ?_
    rintro _ zg1 ⟨rfl, q_f1, q_k1, q_pl1⟩
    have q_tk := zTook_k q_pl1.2.1
    have q_nm1 := zNm_f q_f1 q_nm (by decide) (by decide)
    have y_1 := zEW_p y_0 q_f1 q_k1 q_pl1 (by omega)
    refine wp_run (k := 1) (pc1 := 18) (l1 := [(0, .ref 0), (1, .int (iN (zp)))]) (st1 := [.int (iN (zp)), .ref 3]) (kr1 := (78, 76)) (h1 := zg1) rfl ?_
    refine wp_call (md1 := am_m_Plan_made) (As := [.ref 3, .int (iN (zp))]) (rest := []) (kr1 := (78, 76)) rfl (jg_Plan_made_3 _ (by omega) (zp := zp) (by omega) (q_tk.2.2.2.1 zp (by omega) (by omega))) ?_
    rintro _ _ ⟨rfl, rfl⟩
    have y_mk := zHk_b (zMB_hk q_g (T := T)) zp (by omega)
    refine wp_ne0 (a := zMB G T N zp) rfl (by omega) (fun b_21 => ?_) (fun b_21 => ?_)
    · refine wp_run (k := 4) (pc1 := 33) (l1 := [(0, .ref 0), (1, .int (iN (zp)))]) (st1 := [.int (iN (1)), .int (iN (zp)), .ref 1]) (kr1 := (78, 76)) (h1 := zg1) rfl ?_
      refine wp_call (md1 := am_m_Numbers_value) (As := [.ref 1, .int (iN (zp)), .int (iN (1))]) (rest := []) (kr1 := (78, 76)) rfl (jt_value_1 _ (by omega) q_nm1 q_g (zp := zp) (zw := 1) (by omega) (by omega)) ?_
      rintro _ _ ⟨rfl, rfl⟩
      have y_G := q_g.2.1 1 zp (by omega) (by omega) (by omega) (by omega)
      have y_v1 := (show vmax 1 = 999 from rfl)
      refine wp_run (k := 3) (pc1 := 41) (l1 := [(0, .ref 0), (1, .int (iN (zp))), (2, .int (iN (G (1) (zp))))]) (st1 := [.int (iN (1)), .ref 1041]) (kr1 := (78, 76)) (h1 := zg1) rfl ?_
      refine wp_iald  (z := 1) (j := 1) (n := 6) (v := iN (999)) rfl rfl (by omega) (by decide) (by decide) ((by decide)) ?_
      refine wp_run (k := 3) (pc1 := 46) (l1 := [(0, .ref 0), (1, .int (iN (zp))), (2, .int (iN (G (1) (zp)))), (3, .int (iN (999))), (4, .int (iN (0)))]) (st1 := []) (kr1 := (78, 76)) (h1 := zg1) rfl ?_
      refine jl_keeps (zh := zh) (zs := zs) (zk := zk) (zt := zt) _ (by omega) q_g (by omega) (by omega) (fun zg zr y1 y2 => ⟨?_, y1⟩) 12 zg1 (G 1 zp) 999 0 10 y_1 q_nm1 (by omega) (by omega) rfl (by omega)
      rw [y2, show zVkeep N G T zp = _ from (if_neg (by omega)).trans (if_neg (by omega))]
    · refine wp_run (k := 1) (pc1 := 26) (l1 := [(0, .ref 0), (1, .int (iN (zp)))]) (st1 := [.int (iN (-2))]) (kr1 := (78, 76)) (h1 := zg1) rfl ?_
      refine wp_ret (rv := some (.int (iN (-2)))) rfl ?_
      refine ⟨?_, zEW_d y_1 (by omega)⟩
      rw [show zVkeep N G T zp = -2 from ?_]
      unfold zVkeep
      (repeat' split) <;> first | rfl | omega | contradiction | (exfalso; omega) | (exfalso; rename_i y_x; exact absurd y_x.2.1 (by assumption)) | (exfalso; rename_i y_x; exact y_x ⟨by omega, by assumption, by omega⟩)
  · refine wp_run (k := 1) (pc1 := 12) (l1 := [(0, .ref 0), (1, .int (iN (zp)))]) (st1 := [.int (iN (-1))]) (kr1 := (78, 76)) (h1 := zh) rfl ?_
    refine wp_ret (rv := some (.int (iN (-1)))) rfl ?_
    refine ⟨?_, zEW_d y_0 (by omega)⟩
    rw [show zVkeep N G T zp = -1 from ?_]
    unfold zVkeep
    (repeat' split) <;> first | rfl | omega | contradiction | (exfalso; omega) | (exfalso; rename_i y_x; exact absurd y_x.2.1 (by assumption)) | (exfalso; rename_i y_x; exact y_x ⟨by omega, by assumption, by omega⟩)
