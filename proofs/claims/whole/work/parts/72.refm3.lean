/-! THE REFERENCE's methods: touched, by hand, numbers told, the tape -/
set_option maxRecDepth 20000 in
set_option maxHeartbeats 4000000 in
theorem jl_mtcopy (zd : Nat) (q_d : 7 ≤ zd) {zh : am_H} {zB : Int → Int} {zp zv zw zc : Int} (q_mb : zHd (zh.1 66) zB 16) {zQ : Option Value → am_H → Prop} (zk2 : ∀ zg : am_H, am_fr [72] zh zg → zHd (zg.1 72) zB 16 → am_wp zd am_m_Model_touched 68 [(0, .ref 55), (1, .int (iN (zp))), (2, .int (iN (zv))), (3, .int (iN (zw))), (4, .int (iN (zc))), (5, .int (iN (16)))] [] (78, 76) zg (78, 76) zQ) : ∀ (z_n : Nat) (zg : am_H) (zi : Int) (q_f : am_fr [72] zh zg) (q_i : 0 ≤ zi ∧ zi ≤ 16) (q_w : ∀ x : Int, 0 ≤ x → x < zi → zg.1 72 x.toNat = iN (zB x)), 17 - zi < (z_n : Int) → am_wp zd am_m_Model_touched 41 [(0, .ref 55), (1, .int (iN (zp))), (2, .int (iN (zv))), (3, .int (iN (zw))), (4, .int (iN (zc))), (5, .int (iN (zi)))] [] (78, 76) zg (78, 76) zQ := by
  obtain ⟨zd, rfl⟩ : ∃ y_e, zd = y_e + 7 := ⟨zd - 7, by omega⟩
  intro z_n
  induction z_n with
  | zero => intro zg zi q_f q_i q_w q_m; omega
  | succ z_n z_ih =>
    intro zg zi q_f q_i q_w q_m
    refine wp_run (k := 2) (pc1 := 45) (l1 := [(0, .ref 55), (1, .int (iN (zp))), (2, .int (iN (zv))), (3, .int (iN (zw))), (4, .int (iN (zc))), (5, .int (iN (zi)))]) (st1 := [.int (iN (16)), .int (iN (zi))]) (kr1 := (78, 76)) (h1 := zg) rfl ?_
    refine wp_ge (a := zi) (b := 16) rfl (by omega) (by omega) (fun b_45 => ?_) (fun b_45 => ?_)
    · have y_9 : zi = 16 := by omega
      rw [y_9]
      exact zk2 zg q_f (fun x y1 y2 => q_w x y1 (by omega))
    · refine wp_run (k := 6) (pc1 := 60) (l1 := [(0, .ref 55), (1, .int (iN (zp))), (2, .int (iN (zv))), (3, .int (iN (zw))), (4, .int (iN (zc))), (5, .int (iN (zi)))]) (st1 := [.int (iN (zi)), .ref 66, .int (iN (zi)), .ref 72]) (kr1 := (78, 76)) (h1 := zg) rfl ?_
      refine wp_iald (f := zg.1 66) (z := zi) (j := zi.toNat) (n := 16) (v := iN (zB zi)) rfl rfl (by omega) (by omega) (by decide) ((congrFun (q_f.2 66 (by decide)) _).trans (q_mb zi (by omega) (by omega))) ?_
      refine wp_iast (z := zi) (j := zi.toNat) (n := 16) rfl (by decide) (by decide) rfl rfl (by omega) (by omega) (by decide) ?_
      refine wp_run (k := 2) (pc1 := 41) (l1 := [(0, .ref 55), (1, .int (iN (zp))), (2, .int (iN (zv))), (3, .int (iN (zw))), (4, .int (iN (zc))), (5, .int (iN ((zi) + 1)))]) (st1 := []) (kr1 := (78, 76)) (h1 := am_wr zg 72 (zi.toNat) (iN (zB zi))) (Eq.trans (b := (some (41, [(0, .ref 55), (1, .int (iN (zp))), (2, .int (iN (zv))), (3, .int (iN (zw))), (4, .int (iN (zc))), (5, .int ((iN (zi)) + iN (1)))], [], (78, 76), am_wr zg 72 (zi.toNat) (iN (zB zi))) : Option am_C)) rfl (by simp only [Int32.ofInt_add, Int32.ofInt_sub, Int32.ofInt_mul, Int32.ofInt_neg])) ?_
      refine z_ih (am_wr zg 72 (zi.toNat) (iN (zB zi))) (zi + 1) (am_fr_w q_f (by decide) _ _) (by omega) (fun x y1 y2 => ?_) (by omega)
      by_cases y3 : x = zi
      · rw [y3, am_wr_at]
      · rw [am_wr_no (by omega)]; exact q_w x y1 (by omega)
set_option maxRecDepth 20000 in
set_option maxHeartbeats 4000000 in
theorem jl_mtouch (zd : Nat) (q_d : 3 ≤ zd) {zh : am_H} {N : Int} {zA zB : Int → Int} {zp zv zw zc zo zt : Int} (q_ma : zHd (zh.1 66) zA 16) (q_mb : zHd (zh.1 72) zB 16) (q_ka : zHk N zA) (q_kb : zHk N zB) (q_N : 1 ≤ N ∧ N ≤ 16) (q_w : -2147483648 ≤ zw ∧ zw < 2147483648) {zQ : Option Value → am_H → Prop} (zk2 : ∀ zr : Int, zr = (if zw = 0 then (zTq zA zB N N.toNat).1 else if zw = 1 then (zTq zA zB N N.toNat).2 else zt - zc) → zQ (some (.int (iN zr))) zh) : ∀ (z_n : Nat) (zi : Int) (zm : Int) (zf : Int) (q_i : -1 ≤ zi ∧ zi < N) (q_z : (zm, zf) = zTq zA zB N (N - 1 - zi).toNat), zi + 2 < (z_n : Int) → am_wp zd am_m_Model_touched 112 [(0, .ref 55), (1, .int (iN (zp))), (2, .int (iN (zv))), (3, .int (iN (zw))), (4, .int (iN (zc))), (5, .int (iN (zo))), (6, .int (iN (zt))), (7, .int (iN (zm))), (8, .int (iN (zf))), (9, .int (iN (zi)))] [] (78, 76) zh (78, 76) zQ := by
  obtain ⟨zd, rfl⟩ : ∃ y_e, zd = y_e + 3 := ⟨zd - 3, by omega⟩
  intro z_n
  induction z_n with
  | zero => intro zi zm zf q_i q_z q_m; omega
  | succ z_n z_ih =>
    intro zi zm zf q_i q_z q_m
    refine wp_run (k := 1) (pc1 := 114) (l1 := [(0, .ref 55), (1, .int (iN (zp))), (2, .int (iN (zv))), (3, .int (iN (zw))), (4, .int (iN (zc))), (5, .int (iN (zo))), (6, .int (iN (zt))), (7, .int (iN (zm))), (8, .int (iN (zf))), (9, .int (iN (zi)))]) (st1 := [.int (iN (zi))]) (kr1 := (78, 76)) (h1 := zh) rfl ?_
    refine wp_lt0 (a := zi) rfl (by omega) (fun b_114 => ?_) (fun b_114 => ?_)
    · refine wp_run (k := 1) (pc1 := 148) (l1 := [(0, .ref 55), (1, .int (iN (zp))), (2, .int (iN (zv))), (3, .int (iN (zw))), (4, .int (iN (zc))), (5, .int (iN (zo))), (6, .int (iN (zt))), (7, .int (iN (zm))), (8, .int (iN (zf))), (9, .int (iN (zi)))]) (st1 := [.int (iN (zw))]) (kr1 := (78, 76)) (h1 := zh) rfl ?_
      refine wp_ne0 (a := zw) rfl (by omega) (fun b_148 => ?_) (fun b_148 => ?_)
      · refine wp_run (k := 2) (pc1 := 158) (l1 := [(0, .ref 55), (1, .int (iN (zp))), (2, .int (iN (zv))), (3, .int (iN (zw))), (4, .int (iN (zc))), (5, .int (iN (zo))), (6, .int (iN (zt))), (7, .int (iN (zm))), (8, .int (iN (zf))), (9, .int (iN (zi)))]) (st1 := [.int (iN (1)), .int (iN (zw))]) (kr1 := (78, 76)) (h1 := zh) rfl ?_
        refine wp_ne (a := zw) (b := 1) rfl (by omega) (by omega) (fun b_158 => ?_) (fun b_158 => ?_)
        · refine wp_run (k := 3) (pc1 := 171) (l1 := [(0, .ref 55), (1, .int (iN (zp))), (2, .int (iN (zv))), (3, .int (iN (zw))), (4, .int (iN (zc))), (5, .int (iN (zo))), (6, .int (iN (zt))), (7, .int (iN (zm))), (8, .int (iN (zf))), (9, .int (iN (zi)))]) (st1 := [.int (iN ((zt) - (zc)))]) (kr1 := (78, 76)) (h1 := zh) (Eq.trans (b := (some (171, [(0, .ref 55), (1, .int (iN (zp))), (2, .int (iN (zv))), (3, .int (iN (zw))), (4, .int (iN (zc))), (5, .int (iN (zo))), (6, .int (iN (zt))), (7, .int (iN (zm))), (8, .int (iN (zf))), (9, .int (iN (zi)))], [.int ((iN (zt)) - (iN (zc)))], (78, 76), zh) : Option am_C)) rfl (by simp only [Int32.ofInt_add, Int32.ofInt_sub, Int32.ofInt_mul, Int32.ofInt_neg])) ?_
          refine wp_ret (rv := some (.int (iN ((zt) - (zc))))) rfl ?_
          refine zk2 _ ?_
          rw [show N - 1 - zi = N by omega] at q_z
          rw [← q_z]
          exact ((if_neg (by omega)).trans (if_neg (by omega))).symm
        · refine wp_run (k := 2) (pc1 := 171) (l1 := [(0, .ref 55), (1, .int (iN (zp))), (2, .int (iN (zv))), (3, .int (iN (zw))), (4, .int (iN (zc))), (5, .int (iN (zo))), (6, .int (iN (zt))), (7, .int (iN (zm))), (8, .int (iN (zf))), (9, .int (iN (zi)))]) (st1 := [.int (iN (zf))]) (kr1 := (78, 76)) (h1 := zh) rfl ?_
          refine wp_ret (rv := some (.int (iN (zf)))) rfl ?_
          refine zk2 _ ?_
          rw [show N - 1 - zi = N by omega] at q_z
          rw [← q_z]
          exact ((if_neg (by omega)).trans (if_pos (by omega))).symm
      · refine wp_run (k := 2) (pc1 := 171) (l1 := [(0, .ref 55), (1, .int (iN (zp))), (2, .int (iN (zv))), (3, .int (iN (zw))), (4, .int (iN (zc))), (5, .int (iN (zo))), (6, .int (iN (zt))), (7, .int (iN (zm))), (8, .int (iN (zf))), (9, .int (iN (zi)))]) (st1 := [.int (iN (zm))]) (kr1 := (78, 76)) (h1 := zh) rfl ?_
        refine wp_ret (rv := some (.int (iN (zm)))) rfl ?_
        refine zk2 _ ?_
        rw [show N - 1 - zi = N by omega] at q_z
        rw [← q_z]
        exact (if_pos (by omega)).symm
    · have y_A := zHk_b q_ka zi (by omega)
      have y_B := zHk_b q_kb zi (by omega)
      refine wp_run (k := 3) (pc1 := 123) (l1 := [(0, .ref 55), (1, .int (iN (zp))), (2, .int (iN (zv))), (3, .int (iN (zw))), (4, .int (iN (zc))), (5, .int (iN (zo))), (6, .int (iN (zt))), (7, .int (iN (zm))), (8, .int (iN (zf))), (9, .int (iN (zi)))]) (st1 := [.int (iN (zi)), .ref 66]) (kr1 := (78, 76)) (h1 := zh) rfl ?_
      refine wp_iald (f := zh.1 66) (z := zi) (j := zi.toNat) (n := 16) (v := iN (zA zi)) rfl rfl (by omega) (by omega) (by decide) (q_ma zi (by omega) (by omega)) ?_
      refine wp_run (k := 3) (pc1 := 130) (l1 := [(0, .ref 55), (1, .int (iN (zp))), (2, .int (iN (zv))), (3, .int (iN (zw))), (4, .int (iN (zc))), (5, .int (iN (zo))), (6, .int (iN (zt))), (7, .int (iN (zm))), (8, .int (iN (zf))), (9, .int (iN (zi)))]) (st1 := [.int (iN (zi)), .ref 72, .int (iN (zA zi))]) (kr1 := (78, 76)) (h1 := zh) rfl ?_
      refine wp_iald (f := zh.1 72) (z := zi) (j := zi.toNat) (n := 16) (v := iN (zB zi)) rfl rfl (by omega) (by omega) (by decide) (q_mb zi (by omega) (by omega)) ?_
      refine wp_eq (a := zA zi) (b := zB zi) rfl (by omega) (by omega) (fun b_131 => ?_) (fun b_131 => ?_)
      · refine wp_run (k := 2) (pc1 := 112) (l1 := [(0, .ref 55), (1, .int (iN (zp))), (2, .int (iN (zv))), (3, .int (iN (zw))), (4, .int (iN (zc))), (5, .int (iN (zo))), (6, .int (iN (zt))), (7, .int (iN (zm))), (8, .int (iN (zf))), (9, .int (iN ((zi) + (-1))))]) (st1 := []) (kr1 := (78, 76)) (h1 := zh) (Eq.trans (b := (some (112, [(0, .ref 55), (1, .int (iN (zp))), (2, .int (iN (zv))), (3, .int (iN (zw))), (4, .int (iN (zc))), (5, .int (iN (zo))), (6, .int (iN (zt))), (7, .int (iN (zm))), (8, .int (iN (zf))), (9, .int ((iN (zi)) + iN (-1)))], [], (78, 76), zh) : Option am_C)) rfl (by simp only [Int32.ofInt_add, Int32.ofInt_sub, Int32.ofInt_mul, Int32.ofInt_neg])) ?_
        refine z_ih (zi + (-1)) (zm) (zf) (by omega) ?_ (by omega)
        rw [show N - 1 - (zi + (-1)) = N - zi by omega, zTq_s zA zB N zi (by omega), if_pos (by omega), ← q_z]
      · refine wp_run (k := 5) (pc1 := 112) (l1 := [(0, .ref 55), (1, .int (iN (zp))), (2, .int (iN (zv))), (3, .int (iN (zw))), (4, .int (iN (zc))), (5, .int (iN (zo))), (6, .int (iN (zt))), (7, .int (iN ((zm) + 1))), (8, .int (iN (zi))), (9, .int (iN ((zi) + (-1))))]) (st1 := []) (kr1 := (78, 76)) (h1 := zh) (Eq.trans (b := (some (112, [(0, .ref 55), (1, .int (iN (zp))), (2, .int (iN (zv))), (3, .int (iN (zw))), (4, .int (iN (zc))), (5, .int (iN (zo))), (6, .int (iN (zt))), (7, .int ((iN (zm)) + iN (1))), (8, .int (iN (zi))), (9, .int ((iN (zi)) + iN (-1)))], [], (78, 76), zh) : Option am_C)) rfl (by simp only [Int32.ofInt_add, Int32.ofInt_sub, Int32.ofInt_mul, Int32.ofInt_neg])) ?_
        refine z_ih (zi + (-1)) ((zm) + 1) (zi) (by omega) ?_ (by omega)
        rw [show N - 1 - (zi + (-1)) = N - zi by omega, zTq_s zA zB N zi (by omega), if_neg (by omega), ← q_z]
set_option maxRecDepth 20000 in
set_option maxHeartbeats 4000000 in
theorem jR_touched (zd : Nat) (q_d : 8 ≤ zd) {zh : am_H} {N : Int} {G : Int → Int → Int} {S T : Int} {zp zv zw : Int} (q_nm : zMm (zh.1 55) (zh.1 56) N G S T) (q_g : zGk N G S T) (q_zpr : -2147483648 ≤ zp ∧ zp < 2147483648) (q_zvr : -2147483648 ≤ zv ∧ zv < 2147483648) (q_zwr : -2147483648 ≤ zw ∧ zw < 2147483648) : am_wp zd am_m_Model_touched 0 [(0, .ref 55), (1, .int (iN (zp))), (2, .int (iN (zv))), (3, .int (iN (zw)))] [] (78, 76) zh (78, 76) (fun rv h' => rv = some (.int (iN (zVtou N G T zp zv zw))) ∧ zRS zh h') := by
  obtain ⟨zd, rfl⟩ : ∃ y_e, zd = y_e + 8 := ⟨zd - 8, by omega⟩
  have q_N := q_g.1
  refine wp_run (k := 2) (pc1 := 2) (l1 := [(0, .ref 55), (1, .int (iN (zp))), (2, .int (iN (zv))), (3, .int (iN (zw)))]) (st1 := [.int (iN (zp)), .ref 55]) (kr1 := (78, 76)) (h1 := zh) rfl ?_
  refine wp_call (md1 := am_m_Model_isPeriod) (As := [.ref 55, .int (iN (zp))]) (rest := []) (kr1 := (78, 76)) rfl (jm_isPeriod _ (by omega) q_nm q_g (zp := zp) (by omega)) ?_
  rintro _ _ ⟨rfl, rfl⟩
  refine wp_eqb rfl (fun b_5 => ?_) (fun b_5 => ?_)
  · refine wp_run (k := 1) (pc1 := 31) (l1 := [(0, .ref 55), (1, .int (iN (zp))), (2, .int (iN (zv))), (3, .int (iN (zw)))]) (st1 := [.int (iN (-10000))]) (kr1 := (78, 76)) (h1 := zh) rfl ?_
    refine wp_ret (rv := some (.int (iN (-10000)))) rfl ?_
    refine ⟨?_, zRS_0 _⟩
    have y_v := (show vmax 0 = 99 from rfl)
    rw [show zVtou N G T zp zv zw = -10000 from ?_]
    unfold zVtou
    (repeat' split) <;> first | rfl | omega | contradiction | (exfalso; omega) | (exfalso; rename_i y_x; exact absurd y_x.2.1 (by assumption)) | (exfalso; rename_i y_x; exact y_x ⟨by omega, by assumption, by omega⟩)
  · refine wp_run (k := 2) (pc1 := 10) (l1 := [(0, .ref 55), (1, .int (iN (zp))), (2, .int (iN (zv))), (3, .int (iN (zw)))]) (st1 := [.int (iN (zv)), .int (iN (0))]) (kr1 := (78, 76)) (h1 := zh) rfl ?_
    refine wp_call (md1 := am_m_Model_mayBe) (As := [.int (iN (0)), .int (iN (zv))]) (rest := []) (kr1 := (78, 76)) rfl (jm_mayBe _ (by omega) (zw := 0) (zv := zv) (by omega) (by omega)) ?_
    rintro _ _ ⟨rfl, rfl⟩
    refine wp_eqb rfl (fun b_13 => ?_) (fun b_13 => ?_)
    · refine wp_run (k := 1) (pc1 := 31) (l1 := [(0, .ref 55), (1, .int (iN (zp))), (2, .int (iN (zv))), (3, .int (iN (zw)))]) (st1 := [.int (iN (-10000))]) (kr1 := (78, 76)) (h1 := zh) rfl ?_
      refine wp_ret (rv := some (.int (iN (-10000)))) rfl ?_
      refine ⟨?_, zRS_0 _⟩
      have y_v := (show vmax 0 = 99 from rfl)
      rw [show zVtou N G T zp zv zw = -10000 from ?_]
      unfold zVtou
      (repeat' split) <;> first | rfl | omega | contradiction | (exfalso; omega) | (exfalso; rename_i y_x; exact absurd y_x.2.1 (by assumption)) | (exfalso; rename_i y_x; exact y_x ⟨by omega, by assumption, by omega⟩)
    · refine wp_run (k := 4) (pc1 := 22) (l1 := [(0, .ref 55), (1, .int (iN (zp))), (2, .int (iN (zv))), (3, .int (iN (zw)))]) (st1 := [.long ((2 : Int64)), .long (Int64.ofNat 0), .long ((iN (zw)).toInt64)]) (kr1 := (78, 76)) (h1 := zh) rfl ?_
      refine wp_call (md1 := am_m_Model_isIn) (As := [.long ((iN (zw)).toInt64), .long (Int64.ofNat 0), .long ((2 : Int64))]) (rest := []) (kr1 := (78, 76)) rfl (jt_isIn _ (by omega) (i2l_i (z := zw) (by omega)) (show (Int64.ofNat 0 : Int64).toInt = 0 by decide) (show ((2 : Int64) : Int64).toInt = 2 by decide)) ?_
      rintro _ _ ⟨rfl, rfl⟩
      refine wp_neb rfl (fun b_25 => ?_) (fun b_25 => ?_)
      · refine wp_run (k := 1) (pc1 := 33) (l1 := [(0, .ref 55), (1, .int (iN (zp))), (2, .int (iN (zv))), (3, .int (iN (zw)))]) (st1 := [.ref 55]) (kr1 := (78, 76)) (h1 := zh) rfl ?_
        refine wp_call (md1 := am_m_Model_thePlan) (As := [.ref 55]) (rest := []) (kr1 := (78, 76)) rfl (jm_thePlan _ (by omega) q_nm q_g) ?_
        rintro _ zg1 ⟨rfl, q_f1, q_s1, q_tm1⟩
        have q_R1 : zRS zh zg1 := zRS_s q_f1 (fun c y => by simp only [List.mem_cons, List.not_mem_nil, or_false] at y ⊢; omega) (fun zs y1 _ _ => q_s1 zs y1) (k1 := 20) (k2 := 20) (k3 := 20) (by decide)
        have q_nm1 := zRS_mm q_R1 q_nm
        have q_tk := zTookM_k q_tm1
        have y_K := zIsN_le q_g q_tk.1
        have y_mhk := zMB_hk (T := T) q_g
        refine wp_run (k := 3) (pc1 := 41) (l1 := [(0, .ref 55), (1, .int (iN (zp))), (2, .int (iN (zv))), (3, .int (iN (zw))), (4, .int (iN ((zPv G T N 0).1))), (5, .int (iN (0)))]) (st1 := []) (kr1 := (78, 76)) (h1 := zg1) rfl ?_
        refine jl_mtcopy (zh := zg1) (zB := zMB G T N) _ (by omega) q_tk.2.2.2 ?_ 18 zg1 0 (am_fr_0 _ _) (by omega) (fun x y1 y2 => by omega) (by omega)
        intro zg2 q_f2 q_mk2
        have q_R2 : zRS zh zg2 := zRS_t q_R1 (zRS_f q_f2 (fun c y => by simp only [List.mem_cons, List.not_mem_nil, or_false] at y ⊢; omega) (by decide))
        have q_nm2 := zRS_mm q_R2 q_nm
        refine wp_run (k := 3) (pc1 := 73) (l1 := [(0, .ref 55), (1, .int (iN (zp))), (2, .int (iN (zv))), (3, .int (iN (zw))), (4, .int (iN ((zPv G T N 0).1))), (5, .int (iN (16)))]) (st1 := [.int (iN (zp)), .ref 56]) (kr1 := (78, 76)) (h1 := zg2) rfl ?_
        refine wp_iald (f := zg2.1 56) (z := zp) (j := zp.toNat) (n := 98) (v := iN (G 0 zp)) rfl rfl (by omega) (by omega) (by decide) (zMm_v q_nm2 (by omega) (by omega) (by omega)) ?_
        refine wp_run (k := 5) (pc1 := 82) (l1 := [(0, .ref 55), (1, .int (iN (zp))), (2, .int (iN (zv))), (3, .int (iN (zw))), (4, .int (iN ((zPv G T N 0).1))), (5, .int (iN (G 0 zp)))]) (st1 := [.int (iN (zv)), .int (iN (zp)), .ref 56]) (kr1 := (78, 76)) (h1 := zg2) rfl ?_
        refine wp_iast (z := zp) (j := zp.toNat) (n := 98) rfl (by decide) (by decide) rfl rfl (by omega) (by omega) (by decide) ?_
        have q_g3 : zGk N (zG1 G 0 zp zv) S T := zGk_up q_g (by have y_v := (show vmax 0 = 99 from rfl); omega)
        have q_nm3 := zMm_wr (zw := 0) (zp := zp) (zv := zv) q_N.2 q_nm2 (by omega) (by omega) (zj := zp) (by omega)
        refine wp_run (k := 1) (pc1 := 84) (l1 := [(0, .ref 55), (1, .int (iN (zp))), (2, .int (iN (zv))), (3, .int (iN (zw))), (4, .int (iN ((zPv G T N 0).1))), (5, .int (iN (G 0 zp)))]) (st1 := [.ref 55]) (kr1 := (78, 76)) (h1 := am_wr zg2 56 (zp.toNat) (iN (zv))) rfl ?_
        refine wp_call (md1 := am_m_Model_thePlan) (As := [.ref 55]) (rest := []) (kr1 := (78, 76)) rfl (jm_thePlan _ (by omega) q_nm3 q_g3) ?_
        rintro _ zg3 ⟨rfl, q_f3, q_s3, q_tm3⟩
        have q_R3 : zRS _ zg3 := zRS_s q_f3 (fun c y => by simp only [List.mem_cons, List.not_mem_nil, or_false] at y ⊢; omega) (fun zs y1 _ _ => q_s3 zs y1) (k1 := 20) (k2 := 20) (k3 := 20) (by decide)
        have q_tk3 := zTookM_k q_tm3
        refine wp_run (k := 5) (pc1 := 96) (l1 := [(0, .ref 55), (1, .int (iN (zp))), (2, .int (iN (zv))), (3, .int (iN (zw))), (4, .int (iN ((zPv G T N 0).1))), (5, .int (iN (G 0 zp))), (6, .int (iN ((zPv (zG1 G 0 zp zv) T N 0).1)))]) (st1 := [.int (iN (G 0 zp)), .int (iN (zp)), .ref 56]) (kr1 := (78, 76)) (h1 := zg3) rfl ?_
        refine wp_iast (z := zp) (j := zp.toNat) (n := 98) rfl (by decide) (by decide) rfl rfl (by omega) (by omega) (by decide) ?_
        refine wp_run (k := 9) (pc1 := 112) (l1 := [(0, .ref 55), (1, .int (iN (zp))), (2, .int (iN (zv))), (3, .int (iN (zw))), (4, .int (iN ((zPv G T N 0).1))), (5, .int (iN (G 0 zp))), (6, .int (iN ((zPv (zG1 G 0 zp zv) T N 0).1))), (7, .int (iN (0))), (8, .int (iN (-2))), (9, .int (iN ((N) - (1))))]) (st1 := []) (kr1 := (78, 76)) (h1 := am_wr zg3 56 (zp.toNat) (iN (G 0 zp))) (Eq.trans (b := (some (112, [(0, .ref 55), (1, .int (iN (zp))), (2, .int (iN (zv))), (3, .int (iN (zw))), (4, .int (iN ((zPv G T N 0).1))), (5, .int (iN (G 0 zp))), (6, .int (iN ((zPv (zG1 G 0 zp zv) T N 0).1))), (7, .int (iN (0))), (8, .int (iN (-2))), (9, .int (((am_wr zg3 56 (zp.toNat) (iN (G 0 zp))).1 55 0) - (iN (1))))], [], (78, 76), am_wr zg3 56 (zp.toNat) (iN (G 0 zp))) : Option am_C)) rfl (by simp only [(show (am_wr zg3 56 (zp.toNat) (iN (G 0 zp))).1 55 0 = iN N from (congrFun (am_wr_ne (by decide)) 0).trans (q_R3.2.1.trans q_nm3.1))]; try simp only [Int32.ofInt_add, Int32.ofInt_sub, Int32.ofInt_mul, Int32.ofInt_neg])) ?_
        refine jl_mtouch (zh := am_wr zg3 56 (zp.toNat) (iN (G 0 zp))) (zA := zMB (zG1 G 0 zp zv) T N) (zB := zMB G T N) _ (by omega) ?_ ?_ (zMB_hk q_g3) (zMB_hk q_g) q_N q_zwr (fun zr q_v => ⟨?_, ?_⟩) 18 (N - 1) 0 (-2) (by omega) (by rw [show (N - 1 - (N - 1)).toNat = 0 by omega]; rfl) (by omega)
        · rw [am_wr_ne (by decide)]; exact q_tk3.2.2.2
        · rw [am_wr_ne (by decide), q_f3.2 72 (by decide), am_wr_ne (by decide)]; exact q_mk2
        · rw [q_v]
          have y_v := (show vmax 0 = 99 from rfl)
          rw [show zVtou N G T zp zv zw = (if zw = 0 then _ else if zw = 1 then _ else _) from ?_]
          unfold zVtou
          (repeat' split) <;> first | rfl | omega | contradiction | (exfalso; omega) | (exfalso; rename_i y_x; exact absurd y_x.2.1 (by assumption)) | (exfalso; rename_i y_x; exact y_x ⟨by omega, by assumption, by omega⟩)
        · exact zRS_56 q_R2 q_R3 (zMm_v q_nm (by omega) (by omega) (by omega))
      · refine wp_run (k := 1) (pc1 := 31) (l1 := [(0, .ref 55), (1, .int (iN (zp))), (2, .int (iN (zv))), (3, .int (iN (zw)))]) (st1 := [.int (iN (-10000))]) (kr1 := (78, 76)) (h1 := zh) rfl ?_
        refine wp_ret (rv := some (.int (iN (-10000)))) rfl ?_
        refine ⟨?_, zRS_0 _⟩
        have y_v := (show vmax 0 = 99 from rfl)
        rw [show zVtou N G T zp zv zw = -10000 from ?_]
        unfold zVtou
        (repeat' split) <;> first | rfl | omega | contradiction | (exfalso; omega) | (exfalso; rename_i y_x; exact absurd y_x.2.1 (by assumption)) | (exfalso; rename_i y_x; exact y_x ⟨by omega, by assumption, by omega⟩)
set_option maxRecDepth 20000 in
set_option maxHeartbeats 4000000 in
theorem jR_hand (zd : Nat) (q_d : 3 ≤ zd) {zh : am_H} {N : Int} {G : Int → Int → Int} {S T : Int} {B : Int → Int} {zp zv : Int} (q_nm : zMm (zh.1 55) (zh.1 56) N G S T) (q_g : zGk N G S T) (q_hd : zHd (zh.1 57) B N) (q_zpr : -2147483648 ≤ zp ∧ zp < 2147483648) (q_zvr : -2147483648 ≤ zv ∧ zv < 2147483648) : am_wp zd am_m_Model_hand 0 [(0, .ref 55), (1, .int (iN (zp))), (2, .int (iN (zv)))] [] (78, 76) zh (78, 76) (fun rv h' => ((0 ≤ zp ∧ zp < N ∧ 0 ≤ zv ∧ zv ≤ 999) → rv = some (.int (iN (B zp))) ∧ am_wr zh 57 zp.toNat (iN zv) = h') ∧ (¬ (0 ≤ zp ∧ zp < N ∧ 0 ≤ zv ∧ zv ≤ 999) → rv = some (.int (iN (-1))) ∧ zh = h')) := by
  obtain ⟨zd, rfl⟩ : ∃ y_e, zd = y_e + 3 := ⟨zd - 3, by omega⟩
  have q_N := q_g.1
  refine wp_run (k := 2) (pc1 := 2) (l1 := [(0, .ref 55), (1, .int (iN (zp))), (2, .int (iN (zv)))]) (st1 := [.int (iN (zp)), .ref 55]) (kr1 := (78, 76)) (h1 := zh) rfl ?_
  refine wp_call (md1 := am_m_Model_isPeriod) (As := [.ref 55, .int (iN (zp))]) (rest := []) (kr1 := (78, 76)) rfl (jm_isPeriod _ (by omega) q_nm q_g (zp := zp) (by omega)) ?_
  rintro _ _ ⟨rfl, rfl⟩
  refine wp_eqb rfl (fun b_5 => ?_) (fun b_5 => ?_)
  · refine wp_run (k := 1) (pc1 := 21) (l1 := [(0, .ref 55), (1, .int (iN (zp))), (2, .int (iN (zv)))]) (st1 := [.int (iN (-1))]) (kr1 := (78, 76)) (h1 := zh) rfl ?_
    refine wp_ret (rv := some (.int (iN (-1)))) rfl ?_
    exact ⟨fun y => by omega, fun _ => ⟨rfl, rfl⟩⟩
  · refine wp_run (k := 4) (pc1 := 14) (l1 := [(0, .ref 55), (1, .int (iN (zp))), (2, .int (iN (zv)))]) (st1 := [.long ((999 : Int64)), .long (Int64.ofNat 0), .long ((iN (zv)).toInt64)]) (kr1 := (78, 76)) (h1 := zh) rfl ?_
    refine wp_call (md1 := am_m_Model_isIn) (As := [.long ((iN (zv)).toInt64), .long (Int64.ofNat 0), .long ((999 : Int64))]) (rest := []) (kr1 := (78, 76)) rfl (jt_isIn _ (by omega) (i2l_i (z := zv) (by omega)) (show (Int64.ofNat 0 : Int64).toInt = 0 by decide) (show ((999 : Int64) : Int64).toInt = 999 by decide)) ?_
    rintro _ _ ⟨rfl, rfl⟩
    refine wp_neb rfl (fun b_17 => ?_) (fun b_17 => ?_)
    · refine wp_run (k := 3) (pc1 := 27) (l1 := [(0, .ref 55), (1, .int (iN (zp))), (2, .int (iN (zv)))]) (st1 := [.int (iN (zp)), .ref 57]) (kr1 := (78, 76)) (h1 := zh) rfl ?_
      refine wp_iald (f := zh.1 57) (z := zp) (j := zp.toNat) (n := 16) (v := iN (B zp)) rfl rfl (by omega) (by omega) (by decide) (q_hd zp (by omega) (by omega)) ?_
      refine wp_run (k := 5) (pc1 := 35) (l1 := [(0, .ref 55), (1, .int (iN (zp))), (2, .int (iN (zv))), (3, .int (iN (B zp)))]) (st1 := [.int (iN (zv)), .int (iN (zp)), .ref 57]) (kr1 := (78, 76)) (h1 := zh) rfl ?_
      refine wp_iast (z := zp) (j := zp.toNat) (n := 16) rfl (by decide) (by decide) rfl rfl (by omega) (by omega) (by decide) ?_
      refine wp_run (k := 1) (pc1 := 37) (l1 := [(0, .ref 55), (1, .int (iN (zp))), (2, .int (iN (zv))), (3, .int (iN (B zp)))]) (st1 := [.int (iN (B zp))]) (kr1 := (78, 76)) (h1 := am_wr zh 57 (zp.toNat) (iN (zv))) rfl ?_
      refine wp_ret (rv := some (.int (iN (B zp)))) rfl ?_
      exact ⟨fun _ => ⟨rfl, rfl⟩, fun y => by omega⟩
    · refine wp_run (k := 1) (pc1 := 21) (l1 := [(0, .ref 55), (1, .int (iN (zp))), (2, .int (iN (zv)))]) (st1 := [.int (iN (-1))]) (kr1 := (78, 76)) (h1 := zh) rfl ?_
      refine wp_ret (rv := some (.int (iN (-1)))) rfl ?_
      exact ⟨fun y => by omega, fun _ => ⟨rfl, rfl⟩⟩
theorem zSi_z : ∀ k : Nat, zSi (fun _ => 0) (k : Int) = 0 := by
  intro k
  induction k with
  | zero => rfl
  | succ k z_ih =>
    rw [show ((k + 1 : Nat) : Int) = (k : Int) + 1 by omega, zSi_s _ _ (by omega), z_ih]
    rfl
set_option maxRecDepth 20000 in
set_option maxHeartbeats 4000000 in
theorem jR_handAs2 (zd : Nat) (q_d : 7 ≤ zd) {zh : am_H} {N : Int} {G : Int → Int → Int} {S T : Int} (q_nm : zMm (zh.1 55) (zh.1 56) N G S T) (q_g : zGk N G S T) : am_wp zd am_m_Model_handAs 0 [(0, .ref 55), (1, .int (iN (2)))] [] (78, 76) zh (78, 76) (fun rv h' => rv = some (.int (iN (zSi (fun _ => 0) N))) ∧ ∃ zg1 : am_H, zRS zh zg1 ∧ ∃ zf, am_row zg1 57 zf = h' ∧ zHd zf (fun _ => 0) N) := by
  obtain ⟨zd, rfl⟩ : ∃ y_e, zd = y_e + 7 := ⟨zd - 7, by omega⟩
  have q_N := q_g.1
  refine wp_run (k := 4) (pc1 := 6) (l1 := [(0, .ref 55), (1, .int (iN (2)))]) (st1 := [.long ((2 : Int64)), .long (Int64.ofNat 0), .long ((iN (2)).toInt64)]) (kr1 := (78, 76)) (h1 := zh) rfl ?_
  refine wp_call (md1 := am_m_Model_isIn) (As := [.long ((iN (2)).toInt64), .long (Int64.ofNat 0), .long ((2 : Int64))]) (rest := []) (kr1 := (78, 76)) rfl (jt_isIn _ (by omega) (i2l_i (z := 2) (by omega)) (show (Int64.ofNat 0 : Int64).toInt = 0 by decide) (show ((2 : Int64) : Int64).toInt = 2 by decide)) ?_
  rintro _ _ ⟨rfl, rfl⟩
  rw [show bI ((0 : Int) ≤ (2 : Int) ∧ (2 : Int) ≤ (2 : Int)) inferInstance = (1 : Int) from if_pos (by decide)]
  refine wp_ne0 (a := 1) rfl (by omega) (fun b_9 => ?_) (fun b_9 => ?_)
  · refine wp_run (k := 2) (pc1 := 16) (l1 := [(0, .ref 55), (1, .int (iN (2)))]) (st1 := [.int (iN (2)), .int (iN (2))]) (kr1 := (78, 76)) (h1 := zh) rfl ?_
    refine wp_ne (a := 2) (b := 2) rfl (by omega) (by omega) (fun b_16 => ?_) (fun b_16 => ?_)
    · exact absurd b_16 (by decide)
    · refine wp_run (k := 1) (pc1 := 20) (l1 := [(0, .ref 55), (1, .int (iN (2)))]) (st1 := [.ref 55]) (kr1 := (78, 76)) (h1 := zh) rfl ?_
      refine wp_call (md1 := am_m_Model_noHands) (As := [.ref 55]) (rest := []) (kr1 := (78, 76)) rfl (jm_noHands _ (by omega) q_nm q_g) ?_
      rintro _ zg2 ⟨rfl, zf, q_e2, q_h2⟩
      refine wp_ret (rv := some (.int (iN (0)))) rfl ?_
      have y_z := zSi_z N.toNat
      rw [show (N.toNat : Int) = N by omega] at y_z
      exact ⟨by rw [y_z], zh, zRS_0 _, zf, q_e2, q_h2⟩
  · exact absurd b_9 (by decide)
set_option maxRecDepth 20000 in
set_option maxHeartbeats 4000000 in
theorem jR_handAs0 (zd : Nat) (q_d : 7 ≤ zd) {zh : am_H} {N : Int} {G : Int → Int → Int} {S T : Int} (q_nm : zMm (zh.1 55) (zh.1 56) N G S T) (q_g : zGk N G S T) : am_wp zd am_m_Model_handAs 0 [(0, .ref 55), (1, .int (iN (0)))] [] (78, 76) zh (78, 76) (fun rv h' => rv = some (.int (iN (zSi (zMB G T N) N))) ∧ ∃ zg1 : am_H, zRS zh zg1 ∧ ∃ zf, am_row zg1 57 zf = h' ∧ zHd zf (zMB G T N) N) := by
  obtain ⟨zd, rfl⟩ : ∃ y_e, zd = y_e + 7 := ⟨zd - 7, by omega⟩
  have q_N := q_g.1
  refine wp_run (k := 4) (pc1 := 6) (l1 := [(0, .ref 55), (1, .int (iN (0)))]) (st1 := [.long ((2 : Int64)), .long (Int64.ofNat 0), .long ((iN (0)).toInt64)]) (kr1 := (78, 76)) (h1 := zh) rfl ?_
  refine wp_call (md1 := am_m_Model_isIn) (As := [.long ((iN (0)).toInt64), .long (Int64.ofNat 0), .long ((2 : Int64))]) (rest := []) (kr1 := (78, 76)) rfl (jt_isIn _ (by omega) (i2l_i (z := 0) (by omega)) (show (Int64.ofNat 0 : Int64).toInt = 0 by decide) (show ((2 : Int64) : Int64).toInt = 2 by decide)) ?_
  rintro _ _ ⟨rfl, rfl⟩
  rw [show bI ((0 : Int) ≤ (0 : Int) ∧ (0 : Int) ≤ (2 : Int)) inferInstance = (1 : Int) from if_pos (by decide)]
  refine wp_ne0 (a := 1) rfl (by omega) (fun b_9 => ?_) (fun b_9 => ?_)
  · refine wp_run (k := 2) (pc1 := 16) (l1 := [(0, .ref 55), (1, .int (iN (0)))]) (st1 := [.int (iN (2)), .int (iN (0))]) (kr1 := (78, 76)) (h1 := zh) rfl ?_
    refine wp_ne (a := 0) (b := 2) rfl (by omega) (by omega) (fun b_16 => ?_) (fun b_16 => ?_)
    · refine wp_run (k := 1) (pc1 := 25) (l1 := [(0, .ref 55), (1, .int (iN (0)))]) (st1 := [.int (iN (0))]) (kr1 := (78, 76)) (h1 := zh) rfl ?_
      refine wp_ne0 (a := 0) rfl (by omega) (fun b_25 => ?_) (fun b_25 => ?_)
      · exact absurd b_25 (by decide)
      · refine wp_run (k := 1) (pc1 := 29) (l1 := [(0, .ref 55), (1, .int (iN (0)))]) (st1 := [.ref 55]) (kr1 := (78, 76)) (h1 := zh) rfl ?_
        refine wp_call (md1 := am_m_Model_thePlan) (As := [.ref 55]) (rest := []) (kr1 := (78, 76)) rfl (jm_thePlan _ (by omega) q_nm q_g) ?_
        rintro _ zg1 ⟨rfl, q_f1, q_s1, q_tm1⟩
        have q_R1 : zRS zh zg1 := zRS_s q_f1 (fun c y => by simp only [List.mem_cons, List.not_mem_nil, or_false] at y ⊢; omega) (fun zs y1 _ _ => q_s1 zs y1) (k1 := 20) (k2 := 20) (k3 := 20) (by decide)
        have q_nm1 := zRS_mm q_R1 q_nm
        have q_tk := zTookM_k q_tm1
        have y_K := zIsN_le q_g q_tk.1
        have y_mhk := zMB_hk (T := T) q_g
        refine wp_run (k := 4) (pc1 := 38) (l1 := [(0, .ref 55), (1, .int (iN (0)))]) (st1 := [.ref 66, .ref 55]) (kr1 := (78, 76)) (h1 := zg1) rfl ?_
        refine wp_call (md1 := am_m_Model_hands) (As := [.ref 55, .ref 66]) (rest := []) (kr1 := (78, 76)) rfl (jm_hands_66 _ (by omega) q_nm1 q_g (B := zMB G T N) (fun p y1 y2 => q_tk.2.2.2 p y1 (by omega))) ?_
        rintro _ zg2 ⟨rfl, zf, q_e2, q_h2⟩
        refine wp_ret (rv := some (.int (iN (zSi (zMB G T N) N)))) rfl ?_
        exact ⟨rfl, zg1, q_R1, zf, q_e2, q_h2⟩
    · exact absurd b_16 (by decide)
  · exact absurd b_9 (by decide)
set_option maxRecDepth 20000 in
set_option maxHeartbeats 4000000 in
theorem jR_handAs1 (zd : Nat) (q_d : 7 ≤ zd) {zh : am_H} {N : Int} {G : Int → Int → Int} {S T : Int} (q_nm : zMm (zh.1 55) (zh.1 56) N G S T) (q_g : zGk N G S T) : am_wp zd am_m_Model_handAs 0 [(0, .ref 55), (1, .int (iN (1)))] [] (78, 76) zh (78, 76) (fun rv h' => (zBst N G S T = 0 → rv = some (.int (iN (zSi (zBm N G S T (zD G 0 (N - 1))) N))) ∧ ∃ zg1 : am_H, zRS zh zg1 ∧ ∃ zf, am_row zg1 57 zf = h' ∧ zHd zf (zBm N G S T (zD G 0 (N - 1))) N) ∧ (¬ zBst N G S T = 0 → rv = some (.int (iN (zBst N G S T))) ∧ zRS zh h')) := by
  obtain ⟨zd, rfl⟩ : ∃ y_e, zd = y_e + 7 := ⟨zd - 7, by omega⟩
  have q_N := q_g.1
  refine wp_run (k := 4) (pc1 := 6) (l1 := [(0, .ref 55), (1, .int (iN (1)))]) (st1 := [.long ((2 : Int64)), .long (Int64.ofNat 0), .long ((iN (1)).toInt64)]) (kr1 := (78, 76)) (h1 := zh) rfl ?_
  refine wp_call (md1 := am_m_Model_isIn) (As := [.long ((iN (1)).toInt64), .long (Int64.ofNat 0), .long ((2 : Int64))]) (rest := []) (kr1 := (78, 76)) rfl (jt_isIn _ (by omega) (i2l_i (z := 1) (by omega)) (show (Int64.ofNat 0 : Int64).toInt = 0 by decide) (show ((2 : Int64) : Int64).toInt = 2 by decide)) ?_
  rintro _ _ ⟨rfl, rfl⟩
  rw [show bI ((0 : Int) ≤ (1 : Int) ∧ (1 : Int) ≤ (2 : Int)) inferInstance = (1 : Int) from if_pos (by decide)]
  refine wp_ne0 (a := 1) rfl (by omega) (fun b_9 => ?_) (fun b_9 => ?_)
  · refine wp_run (k := 2) (pc1 := 16) (l1 := [(0, .ref 55), (1, .int (iN (1)))]) (st1 := [.int (iN (2)), .int (iN (1))]) (kr1 := (78, 76)) (h1 := zh) rfl ?_
    refine wp_ne (a := 1) (b := 2) rfl (by omega) (by omega) (fun b_16 => ?_) (fun b_16 => ?_)
    · refine wp_run (k := 1) (pc1 := 25) (l1 := [(0, .ref 55), (1, .int (iN (1)))]) (st1 := [.int (iN (1))]) (kr1 := (78, 76)) (h1 := zh) rfl ?_
      refine wp_ne0 (a := 1) rfl (by omega) (fun b_25 => ?_) (fun b_25 => ?_)
      · refine wp_run (k := 1) (pc1 := 43) (l1 := [(0, .ref 55), (1, .int (iN (1)))]) (st1 := [.ref 55]) (kr1 := (78, 76)) (h1 := zh) rfl ?_
        refine wp_call (md1 := am_m_Model_boundedNow) (As := [.ref 55]) (rest := []) (kr1 := (78, 76)) rfl (jm_bounded _ (by omega) q_nm q_g) ?_
        rintro _ zg1 ⟨rfl, q_f1, q_bm1⟩
        have q_R1 : zRS zh zg1 := zRS_f q_f1 (fun c y => by simp only [List.mem_cons, List.not_mem_nil, or_false] at y ⊢; omega) (by decide)
        have y_d := zD_rg q_g (a := 0) (b := N - 1) (by omega) (by omega) (by omega)
        have y_st : zBst N G S T = 0 ∨ zBst N G S T = -2 ∨ zBst N G S T = -7 := by unfold zBst; (repeat' split) <;> omega
        obtain ⟨zv, y_v, y_v1⟩ : ∃ zv : Int, (if zBst N G S T = 0 then zVb N G S T (zD G 0 (N - 1)) 0 0 else zBst N G S T) = zv ∧ ((zBst N G S T = 0 ∧ zv = zVb N G S T (zD G 0 (N - 1)) 0 0 ∧ 0 ≤ zv ∧ zv ≤ 1000000000) ∨ (¬ zBst N G S T = 0 ∧ zv = zBst N G S T)) := by
          by_cases y : zBst N G S T = 0
          · have y2 := zVb_r (S := S) (T := T) q_g (R := zD G 0 (N - 1)) ⟨y_d.1, (zBst_0 y).1⟩ (p := 0) (c := 0) (by omega) (by omega)
            exact ⟨_, if_pos y, Or.inl ⟨y, rfl, by omega, by omega⟩⟩
          · exact ⟨_, if_neg y, Or.inr ⟨y, rfl⟩⟩
        rw [y_v]
        have q_nm1 := zRS_mm q_R1 q_nm
        refine wp_run (k := 2) (pc1 := 48) (l1 := [(0, .ref 55), (1, .int (iN (1))), (2, .int (iN (zv)))]) (st1 := [.int (iN (zv))]) (kr1 := (78, 76)) (h1 := zg1) rfl ?_
        refine wp_ge0 (a := zv) rfl (by omega) (fun b_48 => ?_) (fun b_48 => ?_)
        · refine wp_run (k := 3) (pc1 := 60) (l1 := [(0, .ref 55), (1, .int (iN (1))), (2, .int (iN (zv)))]) (st1 := [.ref 71, .ref 55]) (kr1 := (78, 76)) (h1 := zg1) rfl ?_
          refine wp_call (md1 := am_m_Model_hands) (As := [.ref 55, .ref 71]) (rest := []) (kr1 := (78, 76)) rfl (jm_hands_71 _ (by omega) q_nm1 q_g (B := zBm N G S T (zD G 0 (N - 1))) (q_bm1 (by omega))) ?_
          rintro _ zg2 ⟨rfl, zf, q_e2, q_h2⟩
          refine wp_ret (rv := some (.int (iN (zSi (zBm N G S T (zD G 0 (N - 1))) N)))) rfl ?_
          exact ⟨fun _ => ⟨rfl, zg1, q_R1, zf, q_e2, q_h2⟩, fun y => absurd (by omega) y⟩
        · refine wp_run (k := 2) (pc1 := 63) (l1 := [(0, .ref 55), (1, .int (iN (1))), (2, .int (iN (zv)))]) (st1 := [.int (iN (zv))]) (kr1 := (78, 76)) (h1 := zg1) rfl ?_
          refine wp_ret (rv := some (.int (iN (zv)))) rfl ?_
          exact ⟨fun y => by omega, fun y => ⟨by rw [show zv = zBst N G S T by omega], q_R1⟩⟩
      · exact absurd b_25 (by decide)
    · exact absurd b_16 (by decide)
  · exact absurd b_9 (by decide)
set_option maxRecDepth 20000 in
set_option maxHeartbeats 4000000 in
theorem jR_handAsx (zd : Nat) (q_d : 4 ≤ zd) {zh : am_H} {zw : Int} (q_zwr : -2147483648 ≤ zw ∧ zw < 2147483648) (q_w : zw < 0 ∨ 2 < zw) : am_wp zd am_m_Model_handAs 0 [(0, .ref 55), (1, .int (iN (zw)))] [] (78, 76) zh (78, 76) (fun rv h' => rv = some (.int (iN (-1))) ∧ zh = h') := by
  obtain ⟨zd, rfl⟩ : ∃ y_e, zd = y_e + 4 := ⟨zd - 4, by omega⟩
  refine wp_run (k := 4) (pc1 := 6) (l1 := [(0, .ref 55), (1, .int (iN (zw)))]) (st1 := [.long ((2 : Int64)), .long (Int64.ofNat 0), .long ((iN (zw)).toInt64)]) (kr1 := (78, 76)) (h1 := zh) rfl ?_
  refine wp_call (md1 := am_m_Model_isIn) (As := [.long ((iN (zw)).toInt64), .long (Int64.ofNat 0), .long ((2 : Int64))]) (rest := []) (kr1 := (78, 76)) rfl (jt_isIn _ (by omega) (i2l_i (z := zw) (by omega)) (show (Int64.ofNat 0 : Int64).toInt = 0 by decide) (show ((2 : Int64) : Int64).toInt = 2 by decide)) ?_
  rintro _ _ ⟨rfl, rfl⟩
  refine wp_neb rfl (fun b_9 => ?_) (fun b_9 => ?_)
  · exact absurd b_9 (by omega)
  · refine wp_run (k := 1) (pc1 := 13) (l1 := [(0, .ref 55), (1, .int (iN (zw)))]) (st1 := [.int (iN (-1))]) (kr1 := (78, 76)) (h1 := zh) rfl ?_
    refine wp_ret (rv := some (.int (iN (-1)))) rfl ?_
    exact ⟨rfl, rfl⟩
/-- numbers were told: one change -/
def zRC (zh : am_H) (zu : Int) (zg : am_H) (N : Int) (G : Int → Int → Int) (S T : Int) : Prop := ∃ zk1 : am_H, am_fr [56] zh zk1 ∧ zMm (zk1.1 55) (zk1.1 56) N G S T ∧ zChg zk1 zu zg
set_option maxRecDepth 20000 in
set_option maxHeartbeats 4000000 in
theorem jR_tell (zd : Nat) (q_d : 4 ≤ zd) {zh : am_H} {N : Int} {G : Int → Int → Int} {S T : Int} {zu zp zw zv : Int} (q_nm : zMm (zh.1 55) (zh.1 56) N G S T) (q_g : zGk N G S T) (q_u : zh.1 55 4 = iN zu) (q_ur : 0 ≤ zu ∧ zu ≤ 12) (q_zpr : -2147483648 ≤ zp ∧ zp < 2147483648) (q_zwr : -2147483648 ≤ zw ∧ zw < 2147483648) (q_zvr : -2147483648 ≤ zv ∧ zv < 2147483648) : am_wp zd am_m_Model_tell 0 [(0, .ref 55), (1, .int (iN (zp))), (2, .int (iN (zw))), (3, .int (iN (zv)))] [] (78, 76) zh (78, 76) (fun rv h' => ((0 ≤ zp ∧ zp < N ∧ 0 ≤ zw ∧ zw < 6 ∧ 0 ≤ zv ∧ zv ≤ vmax zw) → rv = some (.int (iN (G zw zp))) ∧ zRC zh zu h' N (zG1 G zw zp zv) S T) ∧ (¬ (0 ≤ zp ∧ zp < N ∧ 0 ≤ zw ∧ zw < 6 ∧ 0 ≤ zv ∧ zv ≤ vmax zw) → rv = some (.int (iN (-1))) ∧ zh = h')) := by
  obtain ⟨zd, rfl⟩ : ∃ y_e, zd = y_e + 4 := ⟨zd - 4, by omega⟩
  have q_N := q_g.1
  refine wp_run (k := 2) (pc1 := 2) (l1 := [(0, .ref 55), (1, .int (iN (zp))), (2, .int (iN (zw))), (3, .int (iN (zv)))]) (st1 := [.int (iN (zp)), .ref 55]) (kr1 := (78, 76)) (h1 := zh) rfl ?_
  refine wp_call (md1 := am_m_Model_isPeriod) (As := [.ref 55, .int (iN (zp))]) (rest := []) (kr1 := (78, 76)) rfl (jm_isPeriod _ (by omega) q_nm q_g (zp := zp) (by omega)) ?_
  rintro _ _ ⟨rfl, rfl⟩
  refine wp_eqb rfl (fun b_5 => ?_) (fun b_5 => ?_)
  · refine wp_run (k := 1) (pc1 := 24) (l1 := [(0, .ref 55), (1, .int (iN (zp))), (2, .int (iN (zw))), (3, .int (iN (zv)))]) (st1 := [.int (iN (-1))]) (kr1 := (78, 76)) (h1 := zh) rfl ?_
    refine wp_ret (rv := some (.int (iN (-1)))) rfl ?_
    exact ⟨fun y => by omega, fun _ => ⟨rfl, rfl⟩⟩
  · refine wp_run (k := 1) (pc1 := 9) (l1 := [(0, .ref 55), (1, .int (iN (zp))), (2, .int (iN (zw))), (3, .int (iN (zv)))]) (st1 := [.int (iN (zw))]) (kr1 := (78, 76)) (h1 := zh) rfl ?_
    refine wp_call (md1 := am_m_Model_isWhich) (As := [.int (iN (zw))]) (rest := []) (kr1 := (78, 76)) rfl (jm_isWhich _ (by omega) (zw := zw) (by omega)) ?_
    rintro _ _ ⟨rfl, rfl⟩
    refine wp_eqb rfl (fun b_12 => ?_) (fun b_12 => ?_)
    · refine wp_run (k := 1) (pc1 := 24) (l1 := [(0, .ref 55), (1, .int (iN (zp))), (2, .int (iN (zw))), (3, .int (iN (zv)))]) (st1 := [.int (iN (-1))]) (kr1 := (78, 76)) (h1 := zh) rfl ?_
      refine wp_ret (rv := some (.int (iN (-1)))) rfl ?_
      exact ⟨fun y => by omega, fun _ => ⟨rfl, rfl⟩⟩
    · refine wp_run (k := 2) (pc1 := 17) (l1 := [(0, .ref 55), (1, .int (iN (zp))), (2, .int (iN (zw))), (3, .int (iN (zv)))]) (st1 := [.int (iN (zv)), .int (iN (zw))]) (kr1 := (78, 76)) (h1 := zh) rfl ?_
      refine wp_call (md1 := am_m_Model_mayBe) (As := [.int (iN (zw)), .int (iN (zv))]) (rest := []) (kr1 := (78, 76)) rfl (jm_mayBe _ (by omega) (zw := zw) (zv := zv) (by omega) (by omega)) ?_
      rintro _ _ ⟨rfl, rfl⟩
      refine wp_neb rfl (fun b_20 => ?_) (fun b_20 => ?_)
      · refine wp_run (k := 3) (pc1 := 28) (l1 := [(0, .ref 55), (1, .int (iN (zp))), (2, .int (iN (zw))), (3, .int (iN (zv)))]) (st1 := [.int (iN (zp)), .int (iN (zw)), .ref 55]) (kr1 := (78, 76)) (h1 := zh) rfl ?_
        refine wp_call (md1 := am_m_Model_num) (As := [.ref 55, .int (iN (zw)), .int (iN (zp))]) (rest := []) (kr1 := (78, 76)) rfl (jm_num _ (by omega) q_nm q_g (zw := zw) (zp := zp) (by omega) (by omega)) ?_
        rintro _ _ ⟨rfl, rfl⟩
        refine wp_run (k := 9) (pc1 := 44) (l1 := [(0, .ref 55), (1, .int (iN (zp))), (2, .int (iN (zw))), (3, .int (iN (zv))), (4, .int (iN (G (zw) (zp))))]) (st1 := [.int (iN (zv)), .int (iN (((16) * (zw)) + (zp))), .ref 56]) (kr1 := (78, 76)) (h1 := zh) (Eq.trans (b := (some (44, [(0, .ref 55), (1, .int (iN (zp))), (2, .int (iN (zw))), (3, .int (iN (zv))), (4, .int (iN (G (zw) (zp))))], [.int (iN (zv)), .int (((iN (16)) * (iN (zw))) + (iN (zp))), .ref 56], (78, 76), zh) : Option am_C)) rfl (by simp only [Int32.ofInt_add, Int32.ofInt_sub, Int32.ofInt_mul, Int32.ofInt_neg])) ?_
        refine wp_iast (z := ((16) * (zw)) + (zp)) (j := ((16) * (zw) + (zp) : Int).toNat) (n := 98) rfl (by decide) (by decide) rfl rfl (by omega) (by omega) (by decide) ?_
        refine wp_run (k := 1) (pc1 := 46) (l1 := [(0, .ref 55), (1, .int (iN (zp))), (2, .int (iN (zw))), (3, .int (iN (zv))), (4, .int (iN (G (zw) (zp))))]) (st1 := [.ref 55]) (kr1 := (78, 76)) (h1 := am_wr zh 56 (((16) * (zw) + (zp) : Int).toNat) (iN (zv))) rfl ?_
        refine wp_call (md1 := am_m_Model_changed) (As := [.ref 55]) (rest := []) (kr1 := (78, 76)) rfl (jm_changed (zu := zu) _ (by omega) ((congrFun (am_wr_ne (by decide)) 4).trans q_u) q_ur) ?_
        rintro _ zg2 ⟨rfl, q_ch⟩
        refine wp_run (k := 1) (pc1 := 51) (l1 := [(0, .ref 55), (1, .int (iN (zp))), (2, .int (iN (zw))), (3, .int (iN (zv))), (4, .int (iN (G (zw) (zp))))]) (st1 := [.int (iN (G (zw) (zp)))]) (kr1 := (78, 76)) (h1 := zg2) rfl ?_
        refine wp_ret (rv := some (.int (iN (G (zw) (zp))))) rfl ?_
        exact ⟨fun _ => ⟨rfl, _, am_fr_w (am_fr_0 _ _) (by decide) _ _, zMm_wr q_N.2 q_nm (by omega) (by omega) rfl, q_ch⟩, fun y => by omega⟩
      · refine wp_run (k := 1) (pc1 := 24) (l1 := [(0, .ref 55), (1, .int (iN (zp))), (2, .int (iN (zw))), (3, .int (iN (zv)))]) (st1 := [.int (iN (-1))]) (kr1 := (78, 76)) (h1 := zh) rfl ?_
        refine wp_ret (rv := some (.int (iN (-1)))) rfl ?_
        exact ⟨fun y => by omega, fun _ => ⟨rfl, rfl⟩⟩
set_option maxRecDepth 20000 in
set_option maxHeartbeats 4000000 in
theorem jl_mtellAll (zd : Nat) (q_d : 3 ≤ zd) {zh : am_H} {N : Int} {G : Int → Int → Int} {S T zw zv za zb : Int} (q_w : 0 ≤ zw ∧ zw < 6) (q_v : 0 ≤ zv ∧ zv ≤ vmax zw) (q_e : 0 ≤ za ∧ za ≤ zb ∧ zb < N) (q_N : 1 ≤ N ∧ N ≤ 16) {zQ : Option Value → am_H → Prop} (zk2 : ∀ (zg : am_H) (zK : Int → Int → Int), am_fr [56] zh zg → zMm (zg.1 55) (zg.1 56) N zK S T → (∀ w p : Int, zK w p = if w = zw ∧ za ≤ p ∧ p < zb + 1 then zv else G w p) → am_wp zd am_m_Model_tellAll 72 [(0, .ref 55), (1, .int (iN (za))), (2, .int (iN (zb))), (3, .int (iN (zw))), (4, .int (iN (zv))), (5, .int (iN (zb + 1)))] [] (78, 76) zg (78, 76) zQ) : ∀ (z_n : Nat) (zg : am_H) (zi : Int) (zK : Int → Int → Int) (q_fr : am_fr [56] zh zg) (q_nm1 : zMm (zg.1 55) (zg.1 56) N zK S T) (q_i : za ≤ zi ∧ zi ≤ zb + 1) (q_G : ∀ w p : Int, zK w p = if w = zw ∧ za ≤ p ∧ p < zi then zv else G w p), zb + 1 - zi < (z_n : Int) → am_wp zd am_m_Model_tellAll 46 [(0, .ref 55), (1, .int (iN (za))), (2, .int (iN (zb))), (3, .int (iN (zw))), (4, .int (iN (zv))), (5, .int (iN (zi)))] [] (78, 76) zg (78, 76) zQ := by
  obtain ⟨zd, rfl⟩ : ∃ y_e, zd = y_e + 3 := ⟨zd - 3, by omega⟩
  intro z_n
  induction z_n with
  | zero => intro zg zi zK q_fr q_nm1 q_i q_G q_m; omega
  | succ z_n z_ih =>
    intro zg zi zK q_fr q_nm1 q_i q_G q_m
    refine wp_run (k := 2) (pc1 := 49) (l1 := [(0, .ref 55), (1, .int (iN (za))), (2, .int (iN (zb))), (3, .int (iN (zw))), (4, .int (iN (zv))), (5, .int (iN (zi)))]) (st1 := [.int (iN (zb)), .int (iN (zi))]) (kr1 := (78, 76)) (h1 := zg) rfl ?_
    refine wp_gt (a := zi) (b := zb) rfl (by omega) (by omega) (fun b_49 => ?_) (fun b_49 => ?_)
    · have y_9 : zi = zb + 1 := by omega
      rw [y_9] at q_G
      rw [y_9]
      exact zk2 zg zK q_fr q_nm1 q_G
    · refine wp_run (k := 8) (pc1 := 65) (l1 := [(0, .ref 55), (1, .int (iN (za))), (2, .int (iN (zb))), (3, .int (iN (zw))), (4, .int (iN (zv))), (5, .int (iN (zi)))]) (st1 := [.int (iN (zv)), .int (iN (((16) * (zw)) + (zi))), .ref 56]) (kr1 := (78, 76)) (h1 := zg) (Eq.trans (b := (some (65, [(0, .ref 55), (1, .int (iN (za))), (2, .int (iN (zb))), (3, .int (iN (zw))), (4, .int (iN (zv))), (5, .int (iN (zi)))], [.int (iN (zv)), .int (((iN (16)) * (iN (zw))) + (iN (zi))), .ref 56], (78, 76), zg) : Option am_C)) rfl (by simp only [Int32.ofInt_add, Int32.ofInt_sub, Int32.ofInt_mul, Int32.ofInt_neg])) ?_
      refine wp_iast (z := ((16) * (zw)) + (zi)) (j := ((16) * (zw) + (zi) : Int).toNat) (n := 98) rfl (by decide) (by decide) rfl rfl (by omega) (by omega) (by decide) ?_
      refine wp_run (k := 2) (pc1 := 46) (l1 := [(0, .ref 55), (1, .int (iN (za))), (2, .int (iN (zb))), (3, .int (iN (zw))), (4, .int (iN (zv))), (5, .int (iN ((zi) + 1)))]) (st1 := []) (kr1 := (78, 76)) (h1 := am_wr zg 56 (((16) * (zw) + (zi) : Int).toNat) (iN (zv))) (Eq.trans (b := (some (46, [(0, .ref 55), (1, .int (iN (za))), (2, .int (iN (zb))), (3, .int (iN (zw))), (4, .int (iN (zv))), (5, .int ((iN (zi)) + iN (1)))], [], (78, 76), am_wr zg 56 (((16) * (zw) + (zi) : Int).toNat) (iN (zv))) : Option am_C)) rfl (by simp only [Int32.ofInt_add, Int32.ofInt_sub, Int32.ofInt_mul, Int32.ofInt_neg])) ?_
      refine z_ih (am_wr zg 56 (((16) * (zw) + (zi) : Int).toNat) (iN (zv))) (zi + 1) (zG1 zK zw zi zv) (am_fr_w q_fr (by decide) _ _) (zMm_wr q_N.2 q_nm1 q_w (by omega) rfl) (by omega) ?_ (by omega)
      intro w p
      unfold zG1
      by_cases y1 : w = zw ∧ p = zi
      · rw [if_pos y1, if_pos (by omega)]
      · rw [if_neg y1, q_G w p]
        by_cases y2 : w = zw ∧ za ≤ p ∧ p < zi
        · rw [if_pos y2, if_pos (by omega)]
        · rw [if_neg y2, if_neg (by omega)]
set_option maxRecDepth 20000 in
set_option maxHeartbeats 4000000 in
theorem jR_tellAll (zd : Nat) (q_d : 4 ≤ zd) {zh : am_H} {N : Int} {G : Int → Int → Int} {S T : Int} {zu za zb zw zv : Int} (q_nm : zMm (zh.1 55) (zh.1 56) N G S T) (q_g : zGk N G S T) (q_u : zh.1 55 4 = iN zu) (q_ur : 0 ≤ zu ∧ zu ≤ 12) (q_zar : -2147483648 ≤ za ∧ za < 2147483648) (q_zbr : -2147483648 ≤ zb ∧ zb < 2147483648) (q_zwr : -2147483648 ≤ zw ∧ zw < 2147483648) (q_zvr : -2147483648 ≤ zv ∧ zv < 2147483648) : am_wp zd am_m_Model_tellAll 0 [(0, .ref 55), (1, .int (iN (za))), (2, .int (iN (zb))), (3, .int (iN (zw))), (4, .int (iN (zv)))] [] (78, 76) zh (78, 76) (fun rv h' => ((0 ≤ za ∧ za < N ∧ 0 ≤ zb ∧ zb < N ∧ za ≤ zb ∧ 0 ≤ zw ∧ zw < 6 ∧ 0 ≤ zv ∧ zv ≤ vmax zw) → rv = some (.int (iN (zb - za + 1))) ∧ zRC zh zu h' N (zTa G zw za zb zv) S T) ∧ (¬ (0 ≤ za ∧ za < N ∧ 0 ≤ zb ∧ zb < N ∧ za ≤ zb ∧ 0 ≤ zw ∧ zw < 6 ∧ 0 ≤ zv ∧ zv ≤ vmax zw) → rv = some (.int (iN (-1))) ∧ zh = h')) := by
  obtain ⟨zd, rfl⟩ : ∃ y_e, zd = y_e + 4 := ⟨zd - 4, by omega⟩
  have q_N := q_g.1
  refine wp_run (k := 2) (pc1 := 2) (l1 := [(0, .ref 55), (1, .int (iN (za))), (2, .int (iN (zb))), (3, .int (iN (zw))), (4, .int (iN (zv)))]) (st1 := [.int (iN (za)), .ref 55]) (kr1 := (78, 76)) (h1 := zh) rfl ?_
  refine wp_call (md1 := am_m_Model_isPeriod) (As := [.ref 55, .int (iN (za))]) (rest := []) (kr1 := (78, 76)) rfl (jm_isPeriod _ (by omega) q_nm q_g (zp := za) (by omega)) ?_
  rintro _ _ ⟨rfl, rfl⟩
  refine wp_eqb rfl (fun b_5 => ?_) (fun b_5 => ?_)
  · refine wp_run (k := 1) (pc1 := 42) (l1 := [(0, .ref 55), (1, .int (iN (za))), (2, .int (iN (zb))), (3, .int (iN (zw))), (4, .int (iN (zv)))]) (st1 := [.int (iN (-1))]) (kr1 := (78, 76)) (h1 := zh) rfl ?_
    refine wp_ret (rv := some (.int (iN (-1)))) rfl ?_
    exact ⟨fun y => by omega, fun _ => ⟨rfl, rfl⟩⟩
  · refine wp_run (k := 9) (pc1 := 19) (l1 := [(0, .ref 55), (1, .int (iN (za))), (2, .int (iN (zb))), (3, .int (iN (zw))), (4, .int (iN (zv)))]) (st1 := [.long ((iN ((N) - (1))).toInt64), .long ((iN (za)).toInt64), .long ((iN (zb)).toInt64)]) (kr1 := (78, 76)) (h1 := zh) (Eq.trans (b := (some (19, [(0, .ref 55), (1, .int (iN (za))), (2, .int (iN (zb))), (3, .int (iN (zw))), (4, .int (iN (zv)))], [.long (((zh.1 55 0) - (iN (1))).toInt64), .long ((iN (za)).toInt64), .long ((iN (zb)).toInt64)], (78, 76), zh) : Option am_C)) rfl (by simp only [q_nm.1, Int32.ofInt_add, Int32.ofInt_sub, Int32.ofInt_mul, Int32.ofInt_neg])) ?_
    refine wp_call (md1 := am_m_Model_isIn) (As := [.long ((iN (zb)).toInt64), .long ((iN (za)).toInt64), .long ((iN ((N) - (1))).toInt64)]) (rest := []) (kr1 := (78, 76)) rfl (jt_isIn _ (by omega) (i2l_i (z := zb) (by omega)) (i2l_i (z := za) (by omega)) (i2l_i (z := (N) - (1)) (by omega))) ?_
    rintro _ _ ⟨rfl, rfl⟩
    refine wp_eqb rfl (fun b_22 => ?_) (fun b_22 => ?_)
    · refine wp_run (k := 1) (pc1 := 42) (l1 := [(0, .ref 55), (1, .int (iN (za))), (2, .int (iN (zb))), (3, .int (iN (zw))), (4, .int (iN (zv)))]) (st1 := [.int (iN (-1))]) (kr1 := (78, 76)) (h1 := zh) rfl ?_
      refine wp_ret (rv := some (.int (iN (-1)))) rfl ?_
      exact ⟨fun y => by omega, fun _ => ⟨rfl, rfl⟩⟩
    · refine wp_run (k := 1) (pc1 := 26) (l1 := [(0, .ref 55), (1, .int (iN (za))), (2, .int (iN (zb))), (3, .int (iN (zw))), (4, .int (iN (zv)))]) (st1 := [.int (iN (zw))]) (kr1 := (78, 76)) (h1 := zh) rfl ?_
      refine wp_call (md1 := am_m_Model_isWhich) (As := [.int (iN (zw))]) (rest := []) (kr1 := (78, 76)) rfl (jm_isWhich _ (by omega) (zw := zw) (by omega)) ?_
      rintro _ _ ⟨rfl, rfl⟩
      refine wp_eqb rfl (fun b_29 => ?_) (fun b_29 => ?_)
      · refine wp_run (k := 1) (pc1 := 42) (l1 := [(0, .ref 55), (1, .int (iN (za))), (2, .int (iN (zb))), (3, .int (iN (zw))), (4, .int (iN (zv)))]) (st1 := [.int (iN (-1))]) (kr1 := (78, 76)) (h1 := zh) rfl ?_
        refine wp_ret (rv := some (.int (iN (-1)))) rfl ?_
        exact ⟨fun y => by omega, fun _ => ⟨rfl, rfl⟩⟩
      · refine wp_run (k := 2) (pc1 := 35) (l1 := [(0, .ref 55), (1, .int (iN (za))), (2, .int (iN (zb))), (3, .int (iN (zw))), (4, .int (iN (zv)))]) (st1 := [.int (iN (zv)), .int (iN (zw))]) (kr1 := (78, 76)) (h1 := zh) rfl ?_
        refine wp_call (md1 := am_m_Model_mayBe) (As := [.int (iN (zw)), .int (iN (zv))]) (rest := []) (kr1 := (78, 76)) rfl (jm_mayBe _ (by omega) (zw := zw) (zv := zv) (by omega) (by omega)) ?_
        rintro _ _ ⟨rfl, rfl⟩
        refine wp_neb rfl (fun b_38 => ?_) (fun b_38 => ?_)
        · refine wp_run (k := 2) (pc1 := 46) (l1 := [(0, .ref 55), (1, .int (iN (za))), (2, .int (iN (zb))), (3, .int (iN (zw))), (4, .int (iN (zv))), (5, .int (iN (za)))]) (st1 := []) (kr1 := (78, 76)) (h1 := zh) rfl ?_
          refine jl_mtellAll (zh := zh) (G := G) _ (by omega) (by omega) (by omega) (by omega) q_N ?_ 18 zh za G (am_fr_0 _ _) q_nm (by omega) (fun w p => (if_neg (by omega)).symm) (by omega)
          intro zg1 zK q_f1 q_n1 q_G
          refine wp_run (k := 1) (pc1 := 73) (l1 := [(0, .ref 55), (1, .int (iN (za))), (2, .int (iN (zb))), (3, .int (iN (zw))), (4, .int (iN (zv))), (5, .int (iN (zb + 1)))]) (st1 := [.ref 55]) (kr1 := (78, 76)) (h1 := zg1) rfl ?_
          refine wp_call (md1 := am_m_Model_changed) (As := [.ref 55]) (rest := []) (kr1 := (78, 76)) rfl (jm_changed (zu := zu) _ (by omega) ((congrFun (q_f1.2 55 (by decide)) 4).trans q_u) q_ur) ?_
          rintro _ zg2 ⟨rfl, q_ch⟩
          refine wp_run (k := 5) (pc1 := 81) (l1 := [(0, .ref 55), (1, .int (iN (za))), (2, .int (iN (zb))), (3, .int (iN (zw))), (4, .int (iN (zv))), (5, .int (iN (zb + 1)))]) (st1 := [.int (iN (((zb) - (za)) + (1)))]) (kr1 := (78, 76)) (h1 := zg2) (Eq.trans (b := (some (81, [(0, .ref 55), (1, .int (iN (za))), (2, .int (iN (zb))), (3, .int (iN (zw))), (4, .int (iN (zv))), (5, .int (iN (zb + 1)))], [.int (((iN (zb)) - (iN (za))) + (iN (1)))], (78, 76), zg2) : Option am_C)) rfl (by simp only [Int32.ofInt_add, Int32.ofInt_sub, Int32.ofInt_mul, Int32.ofInt_neg])) ?_
          refine wp_ret (rv := some (.int (iN (((zb) - (za)) + (1))))) rfl ?_
          refine ⟨fun _ => ⟨rfl, zg1, q_f1, zMm_eq q_n1 (fun w p z1 z2 z3 z4 => ?_), q_ch⟩, fun y => by omega⟩
          rw [q_G w p]
          unfold zTa
          by_cases y5 : w = zw ∧ za ≤ p ∧ p < zb + 1
          · rw [if_pos y5, if_pos (by omega)]
          · rw [if_neg y5, if_neg (by omega)]
        · refine wp_run (k := 1) (pc1 := 42) (l1 := [(0, .ref 55), (1, .int (iN (za))), (2, .int (iN (zb))), (3, .int (iN (zw))), (4, .int (iN (zv)))]) (st1 := [.int (iN (-1))]) (kr1 := (78, 76)) (h1 := zh) rfl ?_
          refine wp_ret (rv := some (.int (iN (-1)))) rfl ?_
          exact ⟨fun y => by omega, fun _ => ⟨rfl, rfl⟩⟩
set_option maxRecDepth 20000 in
set_option maxHeartbeats 4000000 in
theorem jR_feed (zd : Nat) (q_d : 3 ≤ zd) {zh : am_H} {zl zc : Int} (q_l : zh.1 55 7 = iN zl) (q_r : 0 ≤ zl ∧ zl ≤ 120) (q_zcr : -2147483648 ≤ zc ∧ zc < 2147483648) : am_wp zd am_m_Model_feed 0 [(0, .ref 55), (1, .int (iN (zc)))] [] (78, 76) zh (78, 76) (fun rv h' => ((32 ≤ zc ∧ zc ≤ 126 ∧ zl < 120) → rv = some (.int (iN (zl + 1))) ∧ am_wr (am_wr zh 59 zl.toNat (iN zc)) 55 7 (iN (zl + 1)) = h') ∧ (¬ (32 ≤ zc ∧ zc ≤ 126 ∧ zl < 120) → rv = some (.int (iN (if 32 ≤ zc ∧ zc ≤ 126 then -3 else -1))) ∧ zh = h')) := by
  obtain ⟨zd, rfl⟩ : ∃ y_e, zd = y_e + 3 := ⟨zd - 3, by omega⟩
  refine wp_run (k := 4) (pc1 := 8) (l1 := [(0, .ref 55), (1, .int (iN (zc)))]) (st1 := [.long ((126 : Int64)), .long ((32 : Int64)), .long ((iN (zc)).toInt64)]) (kr1 := (78, 76)) (h1 := zh) rfl ?_
  refine wp_call (md1 := am_m_Model_isIn) (As := [.long ((iN (zc)).toInt64), .long ((32 : Int64)), .long ((126 : Int64))]) (rest := []) (kr1 := (78, 76)) rfl (jt_isIn _ (by omega) (i2l_i (z := zc) (by omega)) (show ((32 : Int64) : Int64).toInt = 32 by decide) (show ((126 : Int64) : Int64).toInt = 126 by decide)) ?_
  rintro _ _ ⟨rfl, rfl⟩
  refine wp_neb rfl (fun b_11 => ?_) (fun b_11 => ?_)
  · refine wp_run (k := 3) (pc1 := 22) (l1 := [(0, .ref 55), (1, .int (iN (zc)))]) (st1 := [.int (iN (120)), .int (iN (zl))]) (kr1 := (78, 76)) (h1 := zh) (Eq.trans (b := (some (22, [(0, .ref 55), (1, .int (iN (zc)))], [.int (iN (120)), .int (zh.1 55 7)], (78, 76), zh) : Option am_C)) rfl (by simp only [q_l, Int32.ofInt_add, Int32.ofInt_sub, Int32.ofInt_mul, Int32.ofInt_neg])) ?_
    refine wp_ne (a := zl) (b := 120) rfl (by omega) (by omega) (fun b_22 => ?_) (fun b_22 => ?_)
    · refine wp_run (k := 5) (pc1 := 37) (l1 := [(0, .ref 55), (1, .int (iN (zc)))]) (st1 := [.int (iN (zc)), .int (iN (zl)), .ref 59]) (kr1 := (78, 76)) (h1 := zh) (Eq.trans (b := (some (37, [(0, .ref 55), (1, .int (iN (zc)))], [.int (iN (zc)), .int (zh.1 55 7), .ref 59], (78, 76), zh) : Option am_C)) rfl (by simp only [q_l, Int32.ofInt_add, Int32.ofInt_sub, Int32.ofInt_mul, Int32.ofInt_neg])) ?_
      refine wp_iast (z := zl) (j := zl.toNat) (n := 120) rfl (by decide) (by decide) rfl rfl (by omega) (by omega) (by decide) ?_
      refine wp_run (k := 5) (pc1 := 45) (l1 := [(0, .ref 55), (1, .int (iN (zc)))]) (st1 := [.int (iN ((zl) + (1))), .ref 55]) (kr1 := (78, 76)) (h1 := am_wr zh 59 (zl.toNat) (iN (zc))) (Eq.trans (b := (some (45, [(0, .ref 55), (1, .int (iN (zc)))], [.int (((am_wr zh 59 (zl.toNat) (iN (zc))).1 55 7) + (iN (1))), .ref 55], (78, 76), am_wr zh 59 (zl.toNat) (iN (zc))) : Option am_C)) rfl (by simp only [(show (am_wr zh 59 (zl.toNat) (iN (zc))).1 55 7 = iN zl from (congrFun (am_wr_ne (by decide)) 7).trans q_l)]; try simp only [Int32.ofInt_add, Int32.ofInt_sub, Int32.ofInt_mul, Int32.ofInt_neg])) ?_
      refine wp_run (k := 3) (pc1 := 52) (l1 := [(0, .ref 55), (1, .int (iN (zc)))]) (st1 := [.int (iN (zl + 1))]) (kr1 := (78, 76)) (h1 := am_wr (am_wr zh 59 (zl.toNat) (iN (zc))) 55 7 (iN ((zl) + (1)))) (Eq.trans (b := (some (52, [(0, .ref 55), (1, .int (iN (zc)))], [.int ((am_wr (am_wr zh 59 (zl.toNat) (iN (zc))) 55 7 (iN ((zl) + (1)))).1 55 7)], (78, 76), am_wr (am_wr zh 59 (zl.toNat) (iN (zc))) 55 7 (iN ((zl) + (1)))) : Option am_C)) rfl (by simp only [(show (am_wr (am_wr zh 59 (zl.toNat) (iN (zc))) 55 7 (iN ((zl) + (1)))).1 55 7 = iN (zl + 1) from am_wr_at)]; try simp only [Int32.ofInt_add, Int32.ofInt_sub, Int32.ofInt_mul, Int32.ofInt_neg])) ?_
      refine wp_ret (rv := some (.int (iN (zl + 1)))) rfl ?_
      exact ⟨fun _ => ⟨rfl, rfl⟩, fun y => by omega⟩
    · refine wp_run (k := 1) (pc1 := 27) (l1 := [(0, .ref 55), (1, .int (iN (zc)))]) (st1 := [.int (iN (-3))]) (kr1 := (78, 76)) (h1 := zh) rfl ?_
      refine wp_ret (rv := some (.int (iN (-3)))) rfl ?_
      exact ⟨fun y => by omega, fun _ => ⟨by rw [if_pos (by omega)], rfl⟩⟩
  · refine wp_run (k := 1) (pc1 := 15) (l1 := [(0, .ref 55), (1, .int (iN (zc)))]) (st1 := [.int (iN (-1))]) (kr1 := (78, 76)) (h1 := zh) rfl ?_
    refine wp_ret (rv := some (.int (iN (-1)))) rfl ?_
    exact ⟨fun y => by omega, fun _ => ⟨by rw [if_neg (by omega)], rfl⟩⟩
