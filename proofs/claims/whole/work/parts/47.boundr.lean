/-! THE CLASS's Bounded: refresh -/
set_option maxRecDepth 20000 in
set_option maxHeartbeats 4000000 in
theorem jl_brow (zd : Nat) (q_d : 3 ≤ zd) {zh : am_H} {N : Int} {G : Int → Int → Int} {S T R : Int} (q_t : zh.1 18 4 = iN R) (q_R : 0 ≤ R ∧ R ≤ 120) (q_N : 1 ≤ N ∧ N ≤ 16) {zQ : Option Value → am_H → Prop} (zk : ∀ zg : am_H, am_fr [19] zh zg → (∀ c : Int, 0 ≤ c → c ≤ R → zg.1 19 (121 * N + c).toNat = iN (zVb N G S T R N c)) → am_wp zd am_m_Bounded_refresh 96 [(0, .ref 18), (1, .ref 1), (2, .int (iN (N))), (3, .int (iN (R + 1)))] [] (78, 76) zg (78, 76) zQ) : ∀ (z_n : Nat) (zg : am_H) (zi : Int) (q_f : am_fr [19] zh zg) (q_i : 0 ≤ zi ∧ zi ≤ R + 1) (q_w : ∀ c : Int, 0 ≤ c → c < zi → zg.1 19 (121 * N + c).toNat = iN (zVb N G S T R N c)), R + 1 - zi < (z_n : Int) → am_wp zd am_m_Bounded_refresh 55 [(0, .ref 18), (1, .ref 1), (2, .int (iN (N))), (3, .int (iN (zi)))] [] (78, 76) zg (78, 76) zQ := by
  obtain ⟨zd, rfl⟩ : ∃ y_e, zd = y_e + 3 := ⟨zd - 3, by omega⟩
  intro z_n
  induction z_n with
  | zero => intro zg zi q_f q_i q_w q_m; omega
  | succ z_n z_ih =>
    intro zg zi q_f q_i q_w q_m
    refine wp_run (k := 3) (pc1 := 60) (l1 := [(0, .ref 18), (1, .ref 1), (2, .int (iN (N))), (3, .int (iN (zi)))]) (st1 := [.int (iN (R)), .int (iN (zi))]) (kr1 := (78, 76)) (h1 := zg) (Eq.trans (b := (some (60, [(0, .ref 18), (1, .ref 1), (2, .int (iN (N))), (3, .int (iN (zi)))], [.int (zg.1 18 4), .int (iN (zi))], (78, 76), zg) : Option am_C)) rfl (by simp only [(show (zg).1 18 4 = iN R from (congrFun (q_f.2 18 (by decide)) 4).trans q_t), Int32.ofInt_add, Int32.ofInt_sub, Int32.ofInt_mul, Int32.ofInt_neg])) ?_
    refine wp_gt (a := zi) (b := R) rfl (by omega) (by omega) (fun b_60 => ?_) (fun b_60 => ?_)
    · have y_9 : zi = R + 1 := by omega
      rw [y_9]
      exact zk zg q_f (fun c y1 y2 => q_w c y1 (by omega))
    · refine wp_run (k := 10) (pc1 := 78) (l1 := [(0, .ref 18), (1, .ref 1), (2, .int (iN (N))), (3, .int (iN (zi)))]) (st1 := [.int (iN (R)), .int (iN (zi)), .int (iN (((N) * (121)) + (zi))), .ref 19]) (kr1 := (78, 76)) (h1 := zg) (Eq.trans (b := (some (78, [(0, .ref 18), (1, .ref 1), (2, .int (iN (N))), (3, .int (iN (zi)))], [.int (zg.1 18 4), .int (iN (zi)), .int (((iN (N)) * (iN (121))) + (iN (zi))), .ref 19], (78, 76), zg) : Option am_C)) rfl (by simp only [(show (zg).1 18 4 = iN R from (congrFun (q_f.2 18 (by decide)) 4).trans q_t), Int32.ofInt_add, Int32.ofInt_sub, Int32.ofInt_mul, Int32.ofInt_neg])) ?_
      refine wp_ne (a := zi) (b := R) rfl (by omega) (by omega) (fun b_78 => ?_) (fun b_78 => ?_)
      · refine wp_run (k := 1) (pc1 := 87) (l1 := [(0, .ref 18), (1, .ref 1), (2, .int (iN (N))), (3, .int (iN (zi)))]) (st1 := [.int (iN (1000000000)), .int (iN (((N) * (121)) + (zi))), .ref 19]) (kr1 := (78, 76)) (h1 := zg) rfl ?_
        refine wp_call (md1 := am_m_Lp_lay) (As := [.ref 19, .int (iN (((N) * (121)) + (zi))), .int (iN (1000000000))]) (rest := []) (kr1 := (78, 76)) rfl (jt_lay _ (by omega) (zn := 2057) (zi := ((N) * (121)) + (zi)) (zv := iN (1000000000)) (by decide) (by decide) rfl rfl rfl (by decide) (by omega) (by omega)) ?_
        rintro _ _ ⟨rfl, rfl⟩
        refine wp_run (k := 2) (pc1 := 55) (l1 := [(0, .ref 18), (1, .ref 1), (2, .int (iN (N))), (3, .int (iN ((zi) + 1)))]) (st1 := []) (kr1 := (78, 76)) (h1 := am_wr zg 19 (((N) * (121)) + (zi) : Int).toNat (iN (1000000000))) (Eq.trans (b := (some (55, [(0, .ref 18), (1, .ref 1), (2, .int (iN (N))), (3, .int ((iN (zi)) + iN (1)))], [], (78, 76), am_wr zg 19 (((N) * (121)) + (zi) : Int).toNat (iN (1000000000))) : Option am_C)) rfl (by simp only [Int32.ofInt_add, Int32.ofInt_sub, Int32.ofInt_mul, Int32.ofInt_neg])) ?_
        refine z_ih (am_wr zg 19 (((N) * (121)) + (zi) : Int).toNat (iN (1000000000))) (zi + 1) (am_fr_w q_f (by decide) _ _) (by omega) (fun c y1 y2 => ?_) (by omega)
        by_cases y3 : c = zi
        · rw [y3, show (121 * N + zi).toNat = ((N) * (121) + (zi) : Int).toNat by omega, am_wr_at, zVb_n]; first | rw [if_pos (by omega)] | rw [if_neg (by omega)]
        · rw [am_wr_no (by omega)]; exact q_w c y1 (by omega)
      · refine wp_run (k := 2) (pc1 := 87) (l1 := [(0, .ref 18), (1, .ref 1), (2, .int (iN (N))), (3, .int (iN (zi)))]) (st1 := [.int (iN (0)), .int (iN (((N) * (121)) + (zi))), .ref 19]) (kr1 := (78, 76)) (h1 := zg) rfl ?_
        refine wp_call (md1 := am_m_Lp_lay) (As := [.ref 19, .int (iN (((N) * (121)) + (zi))), .int (iN (0))]) (rest := []) (kr1 := (78, 76)) rfl (jt_lay _ (by omega) (zn := 2057) (zi := ((N) * (121)) + (zi)) (zv := iN (0)) (by decide) (by decide) rfl rfl rfl (by decide) (by omega) (by omega)) ?_
        rintro _ _ ⟨rfl, rfl⟩
        refine wp_run (k := 2) (pc1 := 55) (l1 := [(0, .ref 18), (1, .ref 1), (2, .int (iN (N))), (3, .int (iN ((zi) + 1)))]) (st1 := []) (kr1 := (78, 76)) (h1 := am_wr zg 19 (((N) * (121)) + (zi) : Int).toNat (iN (0))) (Eq.trans (b := (some (55, [(0, .ref 18), (1, .ref 1), (2, .int (iN (N))), (3, .int ((iN (zi)) + iN (1)))], [], (78, 76), am_wr zg 19 (((N) * (121)) + (zi) : Int).toNat (iN (0))) : Option am_C)) rfl (by simp only [Int32.ofInt_add, Int32.ofInt_sub, Int32.ofInt_mul, Int32.ofInt_neg])) ?_
        refine z_ih (am_wr zg 19 (((N) * (121)) + (zi) : Int).toNat (iN (0))) (zi + 1) (am_fr_w q_f (by decide) _ _) (by omega) (fun c y1 y2 => ?_) (by omega)
        by_cases y3 : c = zi
        · rw [y3, show (121 * N + zi).toNat = ((N) * (121) + (zi) : Int).toNat by omega, am_wr_at, zVb_n]; first | rw [if_pos (by omega)] | rw [if_neg (by omega)]
        · rw [am_wr_no (by omega)]; exact q_w c y1 (by omega)
set_option maxRecDepth 20000 in
set_option maxHeartbeats 4000000 in
theorem jl_bone (zd : Nat) (q_d : 5 ≤ zd) {zh : am_H} {N : Int} {G : Int → Int → Int} {S T R : Int} {zp : Int} (q_nm : zNm (zh.1 1) (zh.1 2) N G S T) (q_g : zGk N G S T) (q_t : zh.1 18 4 = iN R) (q_R : 0 ≤ R ∧ R ≤ 120) (q_p : 0 ≤ zp ∧ zp < N) (q_A : ∀ x : Int, 0 ≤ x → x ≤ R → zh.1 20 x.toNat = iN (zAb N G S T R zp x)) {zQ : Option Value → am_H → Prop} (zk : ∀ zg : am_H, am_fr [19] zh zg → (∀ p c : Int, zp < p → p ≤ N → 0 ≤ c → c ≤ R → zg.1 19 (121 * p + c).toNat = iN (zVb N G S T R p c)) → (∀ c : Int, 0 ≤ c → c ≤ R → zg.1 19 (121 * zp + c).toNat = iN (zVb N G S T R zp c)) → am_wp zd am_m_Bounded_refresh 150 [(0, .ref 18), (1, .ref 1), (2, .int (iN (N))), (3, .int (iN (zp))), (4, .int (iN (R + 1)))] [] (78, 76) zg (78, 76) zQ) : ∀ (z_n : Nat) (zg : am_H) (zi : Int) (q_f : am_fr [19] zh zg) (q_i : 0 ≤ zi ∧ zi ≤ R + 1) (q_o : ∀ p c : Int, zp < p → p ≤ N → 0 ≤ c → c ≤ R → zg.1 19 (121 * p + c).toNat = iN (zVb N G S T R p c)) (q_w : ∀ c : Int, 0 ≤ c → c < zi → zg.1 19 (121 * zp + c).toNat = iN (zVb N G S T R zp c)), R + 1 - zi < (z_n : Int) → am_wp zd am_m_Bounded_refresh 113 [(0, .ref 18), (1, .ref 1), (2, .int (iN (N))), (3, .int (iN (zp))), (4, .int (iN (zi)))] [] (78, 76) zg (78, 76) zQ := by
  obtain ⟨zd, rfl⟩ : ∃ y_e, zd = y_e + 5 := ⟨zd - 5, by omega⟩
  intro z_n
  induction z_n with
  | zero => intro zg zi q_f q_i q_o q_w q_m; omega
  | succ z_n z_ih =>
    intro zg zi q_f q_i q_o q_w q_m
    have q_N := q_g.1
    have q_S := q_g.2.2.1
    have q_T := q_g.2.2.2
    refine wp_run (k := 3) (pc1 := 119) (l1 := [(0, .ref 18), (1, .ref 1), (2, .int (iN (N))), (3, .int (iN (zp))), (4, .int (iN (zi)))]) (st1 := [.int (iN (R)), .int (iN (zi))]) (kr1 := (78, 76)) (h1 := zg) (Eq.trans (b := (some (119, [(0, .ref 18), (1, .ref 1), (2, .int (iN (N))), (3, .int (iN (zp))), (4, .int (iN (zi)))], [.int (zg.1 18 4), .int (iN (zi))], (78, 76), zg) : Option am_C)) rfl (by simp only [(show (zg).1 18 4 = iN R from (congrFun (q_f.2 18 (by decide)) 4).trans q_t), Int32.ofInt_add, Int32.ofInt_sub, Int32.ofInt_mul, Int32.ofInt_neg])) ?_
    refine wp_gt (a := zi) (b := R) rfl (by omega) (by omega) (fun b_119 => ?_) (fun b_119 => ?_)
    · have y_9 : zi = R + 1 := by omega
      rw [y_9]
      exact zk zg q_f q_o (fun c y1 y2 => q_w c y1 (by omega))
    · refine wp_run (k := 11) (pc1 := 138) (l1 := [(0, .ref 18), (1, .ref 1), (2, .int (iN (N))), (3, .int (iN (zp))), (4, .int (iN (zi)))]) (st1 := [.int (iN (zi)), .int (iN (zp)), .ref 1, .ref 18, .int (iN (((zp) * (121)) + (zi))), .ref 19]) (kr1 := (78, 76)) (h1 := zg) (Eq.trans (b := (some (138, [(0, .ref 18), (1, .ref 1), (2, .int (iN (N))), (3, .int (iN (zp))), (4, .int (iN (zi)))], [.int (iN (zi)), .int (iN (zp)), .ref 1, .ref 18, .int (((iN (zp)) * (iN (121))) + (iN (zi))), .ref 19], (78, 76), zg) : Option am_C)) rfl (by simp only [Int32.ofInt_add, Int32.ofInt_sub, Int32.ofInt_mul, Int32.ofInt_neg])) ?_
      refine wp_call (md1 := am_m_Bounded_leastFrom) (As := [.ref 18, .ref 1, .int (iN (zp)), .int (iN (zi))]) (rest := [.int (iN (((zp) * (121)) + (zi))), .ref 19]) (kr1 := (78, 76)) rfl (jt_bleast (A := zAb N G S T R zp) _ (by omega) (zNm_f q_f q_nm (by decide) (by decide)) q_g ((congrFun (q_f.2 18 (by decide)) 4).trans q_t) q_R (zp := zp) (zc := zi) (by omega) (by omega) (fun x y1 y2 => ⟨(congrFun (q_f.2 20 (by decide)) _).trans (q_A x (by omega) y2), (zAb_r q_g q_R q_p (by omega)).1, (zAb_r q_g q_R q_p (by omega)).2.1⟩)) ?_
      rintro _ _ ⟨rfl, rfl⟩
      refine wp_call (md1 := am_m_Lp_lay) (As := [.ref 19, .int (iN (((zp) * (121)) + (zi))), .int (iN ((zBx G zp (zAb N G S T R zp) zi 0 (zBn G R zp zi)).1))]) (rest := []) (kr1 := (78, 76)) rfl (jt_lay _ (by omega) (zn := 2057) (zi := ((zp) * (121)) + (zi)) (zv := iN ((zBx G zp (zAb N G S T R zp) zi 0 (zBn G R zp zi)).1)) (by decide) (by decide) rfl rfl rfl (by decide) (by omega) (by omega)) ?_
      rintro _ _ ⟨rfl, rfl⟩
      refine wp_run (k := 2) (pc1 := 113) (l1 := [(0, .ref 18), (1, .ref 1), (2, .int (iN (N))), (3, .int (iN (zp))), (4, .int (iN ((zi) + 1)))]) (st1 := []) (kr1 := (78, 76)) (h1 := am_wr zg 19 (((zp) * (121)) + (zi) : Int).toNat (iN ((zBx G zp (zAb N G S T R zp) zi 0 (zBn G R zp zi)).1))) (Eq.trans (b := (some (113, [(0, .ref 18), (1, .ref 1), (2, .int (iN (N))), (3, .int (iN (zp))), (4, .int ((iN (zi)) + iN (1)))], [], (78, 76), am_wr zg 19 (((zp) * (121)) + (zi) : Int).toNat (iN ((zBx G zp (zAb N G S T R zp) zi 0 (zBn G R zp zi)).1))) : Option am_C)) rfl (by simp only [Int32.ofInt_add, Int32.ofInt_sub, Int32.ofInt_mul, Int32.ofInt_neg])) ?_
      refine z_ih (am_wr zg 19 (((zp) * (121)) + (zi) : Int).toNat (iN ((zBx G zp (zAb N G S T R zp) zi 0 (zBn G R zp zi)).1))) (zi + 1) (am_fr_w q_f (by decide) _ _) (by omega) (fun p c y1 y2 y3 y4 => ?_) (fun c y1 y2 => ?_) (by omega)
      · rw [am_wr_no (by omega)]; exact q_o p c y1 y2 y3 y4
      by_cases y3 : c = zi
      · rw [y3, show (121 * zp + zi).toNat = ((zp) * (121) + (zi) : Int).toNat by omega, am_wr_at, zVb_s N G S T R zp zi q_p.2]
      · rw [am_wr_no (by omega)]; exact q_w c y1 (by omega)
set_option maxRecDepth 20000 in
set_option maxHeartbeats 4000000 in
theorem jl_brows (zd : Nat) (q_d : 5 ≤ zd) {zh : am_H} {N : Int} {G : Int → Int → Int} {S T R : Int} (q_nm : zNm (zh.1 1) (zh.1 2) N G S T) (q_g : zGk N G S T) (q_t : zh.1 18 4 = iN R) (q_R : 0 ≤ R ∧ R ≤ 120) {zQ : Option Value → am_H → Prop} (zk : ∀ zg : am_H, am_fr [19, 20] zh zg → (∀ p c : Int, 0 ≤ p → p ≤ N → 0 ≤ c → c ≤ R → zg.1 19 (121 * p + c).toNat = iN (zVb N G S T R p c)) → am_wp zd am_m_Bounded_refresh 156 [(0, .ref 18), (1, .ref 1), (2, .int (iN (N))), (3, .int (iN (-1)))] [] (78, 76) zg (78, 76) zQ) : ∀ (z_n : Nat) (zg : am_H) (zp : Int) (q_f : am_fr [19, 20] zh zg) (q_p : -1 ≤ zp ∧ zp < N) (q_w : ∀ p c : Int, zp < p → p ≤ N → 0 ≤ c → c ≤ R → zg.1 19 (121 * p + c).toNat = iN (zVb N G S T R p c)), zp + 2 < (z_n : Int) → am_wp zd am_m_Bounded_refresh 100 [(0, .ref 18), (1, .ref 1), (2, .int (iN (N))), (3, .int (iN (zp)))] [] (78, 76) zg (78, 76) zQ := by
  obtain ⟨zd, rfl⟩ : ∃ y_e, zd = y_e + 5 := ⟨zd - 5, by omega⟩
  intro z_n
  induction z_n with
  | zero => intro zg zp q_f q_p q_w q_m; omega
  | succ z_n z_ih =>
    intro zg zp q_f q_p q_w q_m
    have q_N := q_g.1
    have q_S := q_g.2.2.1
    have q_T := q_g.2.2.2
    refine wp_run (k := 1) (pc1 := 101) (l1 := [(0, .ref 18), (1, .ref 1), (2, .int (iN (N))), (3, .int (iN (zp)))]) (st1 := [.int (iN (zp))]) (kr1 := (78, 76)) (h1 := zg) rfl ?_
    refine wp_lt0 (a := zp) rfl (by omega) (fun b_101 => ?_) (fun b_101 => ?_)
    · have y_9 : zp = -1 := by omega
      rw [y_9]
      exact zk zg q_f (fun p c y1 y2 y3 y4 => q_w p c (by omega) y2 y3 y4)
    · refine wp_run (k := 3) (pc1 := 107) (l1 := [(0, .ref 18), (1, .ref 1), (2, .int (iN (N))), (3, .int (iN (zp)))]) (st1 := [.int (iN (zp)), .ref 1, .ref 18]) (kr1 := (78, 76)) (h1 := zg) rfl ?_
      refine wp_call (md1 := am_m_Bounded_reckonAfter) (As := [.ref 18, .ref 1, .int (iN (zp))]) (rest := []) (kr1 := (78, 76)) rfl (jt_bafter (V := zVb N G S T R (zp + 1)) _ (by omega) (zNm_f q_f q_nm (by decide) (by decide)) q_g ((congrFun (q_f.2 18 (by decide)) 4).trans q_t) q_R (zp := zp) (by omega) (fun c y1 y2 => ⟨q_w (zp + 1) c (by omega) (by omega) y1 y2, (zVb_r q_g q_R (by omega) ⟨y1, y2⟩).1, by have := (zVb_r (S := S) (T := T) q_g q_R (p := zp + 1) (c := c) (by omega) ⟨y1, y2⟩).2; omega⟩)) ?_
      rintro _ zg1 ⟨rfl, q_f1a, q_a1⟩
      have q_f1 : am_fr [19, 20] zh zg1 := am_fr_t q_f (am_fr_m q_f1a (fun c y => by simp only [List.mem_cons, List.not_mem_nil, or_false] at y ⊢; omega))
      refine wp_run (k := 2) (pc1 := 113) (l1 := [(0, .ref 18), (1, .ref 1), (2, .int (iN (N))), (3, .int (iN (zp))), (4, .int (iN (0)))]) (st1 := []) (kr1 := (78, 76)) (h1 := zg1) rfl ?_
      refine jl_bone (zh := zg1) (S := S) (T := T) _ (by omega) (zNm_f q_f1 q_nm (by decide) (by decide)) q_g ((congrFun (q_f1.2 18 (by decide)) 4).trans q_t) q_R (zp := zp) (by omega) q_a1 ?_ 130 zg1 0 (am_fr_0 _ _) (by omega) (fun p c y1 y2 y3 y4 => by rw [q_f1a.2 19 (by decide)]; exact q_w p c y1 y2 y3 y4) (fun c y1 y2 => by omega) (by omega)
      intro zg2 q_f2 q_o2 q_w2
      refine wp_run (k := 2) (pc1 := 100) (l1 := [(0, .ref 18), (1, .ref 1), (2, .int (iN (N))), (3, .int (iN ((zp) + (-1)))), (4, .int (iN (R + 1)))]) (st1 := []) (kr1 := (78, 76)) (h1 := zg2) (Eq.trans (b := (some (100, [(0, .ref 18), (1, .ref 1), (2, .int (iN (N))), (3, .int ((iN (zp)) + iN (-1))), (4, .int (iN (R + 1)))], [], (78, 76), zg2) : Option am_C)) rfl (by simp only [Int32.ofInt_add, Int32.ofInt_sub, Int32.ofInt_mul, Int32.ofInt_neg])) ?_
      refine wp_drop [4] (l := [(0, .ref 18), (1, .ref 1), (2, .int (iN (N))), (3, .int (iN ((zp) + (-1))))]) rfl rfl ?_
      refine z_ih zg2 (zp + (-1)) (am_fr_t q_f1 (am_fr_m q_f2 (fun c y => by simp only [List.mem_cons, List.not_mem_nil, or_false] at y ⊢; omega))) (by omega) (fun p c y1 y2 y3 y4 => ?_) (by omega)
      by_cases y5 : p = zp
      · rw [y5]; exact q_w2 c y3 y4
      · exact q_o2 p c (by omega) y2 y3 y4
set_option maxRecDepth 20000 in
set_option maxHeartbeats 4000000 in
theorem jt_brefresh (zd : Nat) (q_d : 5 ≤ zd) {zh : am_H} {N : Int} {G : Int → Int → Int} {S T : Int} {zs zk : Int} (q_nm : zNm (zh.1 1) (zh.1 2) N G S T) (q_g : zGk N G S T) (q_s : zh.1 1 2 = iN zs) (q_k : zh.1 18 0 = iN zk) (q_r : 0 ≤ zs ∧ zs < 2147483648 ∧ 0 ≤ zk ∧ zk < 2147483648) (q_old : zk = zs → zBnd zh N G S T) : am_wp zd am_m_Bounded_refresh 0 [(0, .ref 18), (1, .ref 1)] [] (78, 76) zh (78, 76) (fun rv h' => rv = none ∧ am_fr [18, 19, 20, 21] zh h' ∧ h'.1 18 0 = iN zs ∧ zBnd h' N G S T) := by
  obtain ⟨zd, rfl⟩ : ∃ y_e, zd = y_e + 5 := ⟨zd - 5, by omega⟩
  have q_N := q_g.1
  have q_S := q_g.2.2.1
  have q_T := q_g.2.2.2
  have y_d := zD_rg q_g (a := 0) (b := N - 1) (by omega) (by omega) (by omega)
  refine wp_run (k := 3) (pc1 := 5) (l1 := [(0, .ref 18), (1, .ref 1)]) (st1 := [.ref 1, .int (iN (zk))]) (kr1 := (78, 76)) (h1 := zh) (Eq.trans (b := (some (5, [(0, .ref 18), (1, .ref 1)], [.ref 1, .int (zh.1 18 0)], (78, 76), zh) : Option am_C)) rfl (by simp only [q_k, Int32.ofInt_add, Int32.ofInt_sub, Int32.ofInt_mul, Int32.ofInt_neg])) ?_
  refine wp_call (md1 := am_m_Numbers_stamp) (As := [.ref 1]) (rest := [.int (iN (zk))]) (kr1 := (78, 76)) rfl (jt_stamp_1 _ (by omega) (zs := zs) q_s) ?_
  rintro _ _ ⟨rfl, rfl⟩
  refine wp_ne (a := zk) (b := zs) rfl (by omega) (by omega) (fun b_8 => ?_) (fun b_8 => ?_)
  · refine wp_run (k := 2) (pc1 := 14) (l1 := [(0, .ref 18), (1, .ref 1)]) (st1 := [.ref 1, .ref 18]) (kr1 := (78, 76)) (h1 := zh) rfl ?_
    refine wp_call (md1 := am_m_Numbers_stamp) (As := [.ref 1]) (rest := [.ref 18]) (kr1 := (78, 76)) rfl (jt_stamp_1 _ (by omega) (zs := zs) q_s) ?_
    rintro _ _ ⟨rfl, rfl⟩
    refine wp_run (k := 2) (pc1 := 21) (l1 := [(0, .ref 18), (1, .ref 1)]) (st1 := [.ref 1]) (kr1 := (78, 76)) (h1 := am_wr zh 18 0 (iN (zs))) rfl ?_
    refine wp_call (md1 := am_m_Numbers_size) (As := [.ref 1]) (rest := []) (kr1 := (78, 76)) rfl (jt_size_1 _ (by omega) (zNm_f (ks := [18]) (am_fr_w (am_fr_0 _ _) (by decide) _ _) q_nm (by decide) (by decide)) q_g) ?_
    rintro _ _ ⟨rfl, rfl⟩
    refine wp_run (k := 7) (pc1 := 31) (l1 := [(0, .ref 18), (1, .ref 1), (2, .int (iN (N)))]) (st1 := [.int (iN ((N) - (1))), .int (iN (0)), .ref 1, .ref 18]) (kr1 := (78, 76)) (h1 := am_wr zh 18 0 (iN (zs))) (Eq.trans (b := (some (31, [(0, .ref 18), (1, .ref 1), (2, .int (iN (N)))], [.int ((iN (N)) - (iN (1))), .int (iN (0)), .ref 1, .ref 18], (78, 76), am_wr zh 18 0 (iN (zs))) : Option am_C)) rfl (by simp only [Int32.ofInt_add, Int32.ofInt_sub, Int32.ofInt_mul, Int32.ofInt_neg])) ?_
    refine wp_call (md1 := am_m_Numbers_pieces) (As := [.ref 1, .int (iN (0)), .int (iN ((N) - (1)))]) (rest := [.ref 18]) (kr1 := (78, 76)) rfl (jt_pieces_1 _ (by omega) (zNm_f (ks := [18]) (am_fr_w (am_fr_0 _ _) (by decide) _ _) q_nm (by decide) (by decide)) q_g (za := 0) (zb := (N) - (1)) (by omega)) ?_
    rintro _ _ ⟨rfl, rfl⟩
    refine wp_run (k := 7) (pc1 := 49) (l1 := [(0, .ref 18), (1, .ref 1), (2, .int (iN (N)))]) (st1 := [.int (iN (120)), .int (iN (zD G 0 (N - 1)))]) (kr1 := (78, 76)) (h1 := am_wr (am_wr (am_wr zh 18 0 (iN (zs))) 18 4 (iN (zD G (0) ((N) - (1))))) 18 5 (iN (-7))) (Eq.trans (b := (some (49, [(0, .ref 18), (1, .ref 1), (2, .int (iN (N)))], [.int (iN (120)), .int ((am_wr (am_wr (am_wr zh 18 0 (iN (zs))) 18 4 (iN (zD G (0) ((N) - (1))))) 18 5 (iN (-7))).1 18 4)], (78, 76), am_wr (am_wr (am_wr zh 18 0 (iN (zs))) 18 4 (iN (zD G (0) ((N) - (1))))) 18 5 (iN (-7))) : Option am_C)) rfl (by simp only [(show (am_wr (am_wr (am_wr zh 18 0 (iN (zs))) 18 4 (iN (zD G (0) ((N) - (1))))) 18 5 (iN (-7))).1 18 4 = iN (zD G 0 (N - 1)) from by rw [am_wr_no (by decide), am_wr_at])]; try simp only [Int32.ofInt_add, Int32.ofInt_sub, Int32.ofInt_mul, Int32.ofInt_neg])) ?_
    refine wp_le (a := zD G 0 (N - 1)) (b := 120) rfl (by omega) (by omega) (fun b_49 => ?_) (fun b_49 => ?_)
    · refine wp_run (k := 2) (pc1 := 55) (l1 := [(0, .ref 18), (1, .ref 1), (2, .int (iN (N))), (3, .int (iN (0)))]) (st1 := []) (kr1 := (78, 76)) (h1 := am_wr (am_wr (am_wr zh 18 0 (iN (zs))) 18 4 (iN (zD G (0) ((N) - (1))))) 18 5 (iN (-7))) rfl ?_
      have q_f0 : am_fr [18] zh (am_wr (am_wr (am_wr zh 18 0 (iN (zs))) 18 4 (iN (zD G (0) ((N) - (1))))) 18 5 (iN (-7))) := am_fr_w (am_fr_w (am_fr_w (am_fr_0 _ _) (by decide) _ _) (by decide) _ _) (by decide) _ _
      refine jl_brow (zh := am_wr (am_wr (am_wr zh 18 0 (iN (zs))) 18 4 (iN (zD G (0) ((N) - (1))))) 18 5 (iN (-7))) (N := N) (G := G) (S := S) (T := T) (R := zD G 0 (N - 1)) _ (by omega) (by rw [am_wr_no (by decide), am_wr_at]) (by omega) q_N ?_ 130 (am_wr (am_wr (am_wr zh 18 0 (iN (zs))) 18 4 (iN (zD G (0) ((N) - (1))))) 18 5 (iN (-7))) 0 (am_fr_0 _ _) (by omega) (fun c y1 y2 => by omega) (by omega)
      intro zg3 q_f3 q_w3
      have q_t3 : zg3.1 18 4 = iN (zD G 0 (N - 1)) := by rw [q_f3.2 18 (by decide), am_wr_no (by decide), am_wr_at]
      have q_k3 : zg3.1 18 0 = iN zs := by rw [q_f3.2 18 (by decide), am_wr_no (by decide), am_wr_no (by decide), am_wr_at]
      have q_nm3 := zNm_f q_f3 (zNm_f q_f0 q_nm (by decide) (by decide)) (by decide) (by decide)
      refine wp_run (k := 4) (pc1 := 100) (l1 := [(0, .ref 18), (1, .ref 1), (2, .int (iN (N))), (3, .int (iN ((N) - (1))))]) (st1 := []) (kr1 := (78, 76)) (h1 := zg3) (Eq.trans (b := (some (100, [(0, .ref 18), (1, .ref 1), (2, .int (iN (N))), (3, .int ((iN (N)) - (iN (1))))], [], (78, 76), zg3) : Option am_C)) rfl (by simp only [Int32.ofInt_add, Int32.ofInt_sub, Int32.ofInt_mul, Int32.ofInt_neg])) ?_
      refine jl_brows (zh := zg3) _ (by omega) q_nm3 q_g q_t3 (by omega) ?_ 20 zg3 (N - 1) (am_fr_0 _ _) (by omega) (fun p c y1 y2 y3 y4 => by rw [show p = N by omega]; exact q_w3 c y3 y4) (by omega)
      intro zg4 q_f4 q_w4
      have q_t4 : zg4.1 18 4 = iN (zD G 0 (N - 1)) := by rw [q_f4.2 18 (by decide)]; exact q_t3
      have q_k4 : zg4.1 18 0 = iN zs := by rw [q_f4.2 18 (by decide)]; exact q_k3
      have q_nm4 := zNm_f q_f4 q_nm3 (by decide) (by decide)
      have y_c0 := q_w4 0 0 (by omega) (by omega) (by omega) (by omega)
      have y_vb := zVb_r (S := S) (T := T) q_g (R := zD G 0 (N - 1)) (by omega) (p := 0) (c := 0) (by omega) (by omega)
      have q_f34 : am_fr [18, 19, 20, 21] zh zg4 := am_fr_t (am_fr_m q_f0 (fun c y => by simp only [List.mem_cons, List.not_mem_nil, or_false] at y ⊢; omega)) (am_fr_t (am_fr_m q_f3 (fun c y => by simp only [List.mem_cons, List.not_mem_nil, or_false] at y ⊢; omega)) (am_fr_m q_f4 (fun c y => by simp only [List.mem_cons, List.not_mem_nil, or_false] at y ⊢; omega)))
      refine wp_run (k := 2) (pc1 := 158) (l1 := [(0, .ref 18), (1, .ref 1), (2, .int (iN (N))), (3, .int (iN (-1)))]) (st1 := [.ref 18, .ref 18]) (kr1 := (78, 76)) (h1 := zg4) rfl ?_
      refine wp_call (md1 := am_m_Bounded_cost) (As := [.ref 18]) (rest := [.ref 18]) (kr1 := (78, 76)) rfl (jg_Bounded_cost_18 _ (by omega) (zv := zVb N G S T (zD G 0 (N - 1)) 0 0) y_c0) ?_
      rintro _ _ ⟨rfl, rfl⟩
      refine wp_run (k := 1) (pc1 := 163) (l1 := [(0, .ref 18), (1, .ref 1), (2, .int (iN (N))), (3, .int (iN (-1)))]) (st1 := [.int (iN (1000000000)), .int (iN (zVb N G S T (zD G 0 (N - 1)) 0 0)), .ref 18]) (kr1 := (78, 76)) (h1 := zg4) rfl ?_
      refine wp_ge (a := zVb N G S T (zD G 0 (N - 1)) 0 0) (b := 1000000000) rfl (by omega) (by omega) (fun b_163 => ?_) (fun b_163 => ?_)
      · refine wp_run (k := 4) (pc1 := 179) (l1 := [(0, .ref 18), (1, .ref 1), (2, .int (iN (N))), (3, .int (iN (-1)))]) (st1 := [.int (iN (-2))]) (kr1 := (78, 76)) (h1 := am_wr zg4 18 5 (iN (-2))) (Eq.trans (b := (some (179, [(0, .ref 18), (1, .ref 1), (2, .int (iN (N))), (3, .int (iN (-1)))], [.int ((am_wr zg4 18 5 (iN (-2))).1 18 5)], (78, 76), am_wr zg4 18 5 (iN (-2))) : Option am_C)) rfl (by simp only [(show (am_wr zg4 18 5 (iN (-2))).1 18 5 = iN (-2) from am_wr_at)]; try simp only [Int32.ofInt_add, Int32.ofInt_sub, Int32.ofInt_mul, Int32.ofInt_neg])) ?_
        refine wp_ne0 (a := -2) rfl (by omega) (fun b_179 => ?_) (fun b_179 => ?_)
        · refine wp_ret (rv := none) rfl ?_
          have y_b : zBst N G S T = -2 := by unfold zBst; rw [if_neg (by omega), if_neg (by omega)]
          refine ⟨rfl, am_fr_w q_f34 (by decide) _ _, ?_, ?_, fun y => by omega⟩
          · rw [am_wr_no (by decide)]; exact q_k4
          · rw [am_wr_at, y_b]
        · exact absurd b_179 (by decide)
      · refine wp_run (k := 5) (pc1 := 179) (l1 := [(0, .ref 18), (1, .ref 1), (2, .int (iN (N))), (3, .int (iN (-1)))]) (st1 := [.int (iN (0))]) (kr1 := (78, 76)) (h1 := am_wr zg4 18 5 (iN (0))) (Eq.trans (b := (some (179, [(0, .ref 18), (1, .ref 1), (2, .int (iN (N))), (3, .int (iN (-1)))], [.int ((am_wr zg4 18 5 (iN (0))).1 18 5)], (78, 76), am_wr zg4 18 5 (iN (0))) : Option am_C)) rfl (by simp only [(show (am_wr zg4 18 5 (iN (0))).1 18 5 = iN (0) from am_wr_at)]; try simp only [Int32.ofInt_add, Int32.ofInt_sub, Int32.ofInt_mul, Int32.ofInt_neg])) ?_
        refine wp_ne0 (a := 0) rfl (by omega) (fun b_179 => ?_) (fun b_179 => ?_)
        · exact absurd b_179 (by decide)
        · refine wp_run (k := 2) (pc1 := 184) (l1 := [(0, .ref 18), (1, .ref 1), (2, .int (iN (N))), (3, .int (iN (-1)))]) (st1 := [.ref 1, .ref 18]) (kr1 := (78, 76)) (h1 := am_wr zg4 18 5 (iN (0))) rfl ?_
          refine wp_call (md1 := am_m_Bounded_takeMade) (As := [.ref 18, .ref 1]) (rest := []) (kr1 := (78, 76)) rfl (jt_btake (zh := am_wr zg4 18 5 (iN (0))) _ (by omega) (zNm_f (ks := [18]) (am_fr_w (am_fr_0 _ _) (by decide) _ _) q_nm4 (by decide) (by decide)) q_g (by rw [am_wr_no (by decide)]; exact q_t4) (by omega) (fun p c y1 y2 y3 y4 => by rw [am_wr_ne (by decide)]; exact q_w4 p c y1 y2 y3 y4) (by omega)) ?_
          rintro _ zg5 ⟨rfl, q_f5, q_w5⟩
          refine wp_ret (rv := none) rfl ?_
          have y_b : zBst N G S T = 0 := by unfold zBst; rw [if_neg (by omega), if_pos (by omega)]
          refine ⟨rfl, am_fr_t (am_fr_w q_f34 (by decide) _ _) (am_fr_m q_f5 (fun c y => by simp only [List.mem_cons, List.not_mem_nil, or_false] at y ⊢; omega)), ?_, ?_, fun _ => ⟨?_, q_w5⟩⟩
          · rw [q_f5.2 18 (by decide), am_wr_no (by decide)]; exact q_k4
          · rw [q_f5.2 18 (by decide), am_wr_at, y_b]
          · rw [q_f5.2 19 (by decide), am_wr_ne (by decide)]; exact y_c0
    · refine wp_ret (rv := none) rfl ?_
      have y_b : zBst N G S T = -7 := by unfold zBst; rw [if_pos (by omega)]
      refine ⟨rfl, am_fr_m (show am_fr [18] _ _ from am_fr_w (am_fr_w (am_fr_w (am_fr_0 _ _) (by decide) _ _) (by decide) _ _) (by decide) _ _) (fun c y => by simp only [List.mem_cons, List.not_mem_nil, or_false] at y ⊢; omega), ?_, ?_, fun y => by omega⟩
      · rw [am_wr_no (by decide), am_wr_no (by decide), am_wr_at]
      · rw [am_wr_at, y_b]
  · refine wp_ret (rv := none) rfl ?_
    have y_k : zk = zs := by omega
    exact ⟨rfl, am_fr_0 _ _, by rw [q_k, y_k], q_old y_k⟩
