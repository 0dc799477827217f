/-! THE REFERENCE's methods: periods, a text -/
set_option maxRecDepth 20000 in
set_option maxHeartbeats 4000000 in
theorem jl_mperiods (zd : Nat) (q_d : 1 ≤ zd) {zh : am_H} {N : Int} {G : Int → Int → Int} {S T : Int} {B : Int → Int} {zn : Int} (q_N : 1 ≤ N ∧ N ≤ 16) (q_n : 1 ≤ zn ∧ zn ≤ 16) {zQ : Option Value → am_H → Prop} (zk2 : ∀ zg : am_H, am_fr [56, 57] zh zg → zg.1 56 96 = iN S → zg.1 56 97 = iN T → (∀ w p : Int, 0 ≤ w → w < 6 → 0 ≤ p → p < max N zn → zg.1 56 (16 * w + p).toNat = iN (zGr G N w p)) → (∀ p : Int, 0 ≤ p → p < max N zn → zg.1 57 p.toNat = iN (if p < N then B p else 0)) → am_wp zd am_m_Model_periods 37 [(0, .ref 55), (1, .int (iN (zn))), (2, .int (iN (N))), (3, .int (iN (max N zn)))] [] (78, 76) zg (78, 76) zQ) : ∀ (z_n : Nat) (zg : am_H) (zi : Int) (q_fr : am_fr [56, 57] zh zg) (q_S : zg.1 56 96 = iN S) (q_T1 : zg.1 56 97 = iN T) (q_A : ∀ w p : Int, 0 ≤ w → w < 6 → 0 ≤ p → p < zi → zg.1 56 (16 * w + p).toNat = iN (zGr G N w p)) (q_B : ∀ p : Int, 0 ≤ p → p < zi → zg.1 57 p.toNat = iN (if p < N then B p else 0)) (q_i : N ≤ zi ∧ zi ≤ max N zn), 17 - zi < (z_n : Int) → am_wp zd am_m_Model_periods 21 [(0, .ref 55), (1, .int (iN (zn))), (2, .int (iN (N))), (3, .int (iN (zi)))] [] (78, 76) zg (78, 76) zQ := by
  obtain ⟨zd, rfl⟩ : ∃ y_e, zd = y_e + 1 := ⟨zd - 1, by omega⟩
  intro z_n
  induction z_n with
  | zero => intro zg zi q_fr q_S q_T1 q_A q_B q_i q_m; omega
  | succ z_n z_ih =>
    intro zg zi q_fr q_S q_T1 q_A q_B q_i q_m
    refine wp_run (k := 2) (pc1 := 23) (l1 := [(0, .ref 55), (1, .int (iN (zn))), (2, .int (iN (N))), (3, .int (iN (zi)))]) (st1 := [.int (iN (zn)), .int (iN (zi))]) (kr1 := (78, 76)) (h1 := zg) rfl ?_
    refine wp_ge (a := zi) (b := zn) rfl (by omega) (by omega) (fun b_23 => ?_) (fun b_23 => ?_)
    · have y_9 : zi = max N zn := by omega
      rw [y_9] at q_A q_B ⊢
      exact zk2 zg q_fr q_S q_T1 q_A q_B
    · refine wp_run (k := 2) (pc1 := 28) (l1 := [(0, .ref 55), (1, .int (iN (zn))), (2, .int (iN (N))), (3, .int (iN (zi)))]) (st1 := [.int (iN (zi)), .ref 55]) (kr1 := (78, 76)) (h1 := zg) rfl ?_
      refine wp_call (md1 := am_m_Model_fresh) (As := [.ref 55, .int (iN (zi))]) (rest := []) (kr1 := (78, 76)) rfl (jm_fresh (zp := zi) _ (by omega) (by omega)) ?_
      rintro _ _ ⟨rfl, rfl⟩
      refine wp_run (k := 2) (pc1 := 21) (l1 := [(0, .ref 55), (1, .int (iN (zn))), (2, .int (iN (N))), (3, .int (iN ((zi) + 1)))]) (st1 := []) (kr1 := (78, 76)) (h1 := am_row (am_row zg 56 (zFw (zg.1 56) zi.toNat 6)) 57 (zUp (zg.1 57) zi.toNat (iN 0))) (Eq.trans (b := (some (21, [(0, .ref 55), (1, .int (iN (zn))), (2, .int (iN (N))), (3, .int ((iN (zi)) + iN (1)))], [], (78, 76), am_row (am_row zg 56 (zFw (zg.1 56) zi.toNat 6)) 57 (zUp (zg.1 57) zi.toNat (iN 0))) : Option am_C)) rfl (by simp only [Int32.ofInt_add, Int32.ofInt_sub, Int32.ofInt_mul, Int32.ofInt_neg])) ?_
      refine z_ih (am_row (am_row zg 56 (zFw (zg.1 56) zi.toNat 6)) 57 (zUp (zg.1 57) zi.toNat (iN 0))) (zi + 1) (am_fr_r (am_fr_r q_fr (by decide) _) (by decide) _) ?_ ?_ (fun w p y1 y2 y3 y4 => ?_) (fun p y1 y2 => ?_) (by omega) (by omega)
      · rw [am_row_n _ _ _ (by decide), am_row_s, zFw_o _ _ _ 6 (fun w y => by omega)]; exact q_S
      · rw [am_row_n _ _ _ (by decide), am_row_s, zFw_o _ _ _ 6 (fun w y => by omega)]; exact q_T1
      · rw [am_row_n _ _ _ (by decide), am_row_s]
        by_cases y5 : p = zi
        · rw [y5, show (16 * w + zi).toNat = 16 * w.toNat + zi.toNat by omega, zFw_i _ _ _ 6 (by omega), show (w.toNat : Int) = w by omega]
          exact congrArg iN (if_neg (show ¬ zi < N by omega)).symm
        · rw [zFw_o _ _ _ 6 (fun v y => by omega)]; exact q_A w p y1 y2 y3 (by omega)
      · rw [am_row_s]
        by_cases y5 : p = zi
        · rw [y5, zUp_s, if_neg (by omega)]
        · rw [zUp_n _ _ _ (by omega)]; exact q_B p y1 (by omega)
set_option maxRecDepth 20000 in
set_option maxHeartbeats 4000000 in
theorem jR_periods (zd : Nat) (q_d : 2 ≤ zd) {zh : am_H} {N : Int} {G : Int → Int → Int} {S T : Int} {B : Int → Int} {zn : Int} (q_nm : zMm (zh.1 55) (zh.1 56) N G S T) (q_g : zGk N G S T) (q_hd : zHd (zh.1 57) B N) (q_znr : -2147483648 ≤ zn ∧ zn < 2147483648) : am_wp zd am_m_Model_periods 0 [(0, .ref 55), (1, .int (iN (zn)))] [] (78, 76) zh (78, 76) (fun rv h' => ((1 ≤ zn ∧ zn ≤ 16 ∧ ¬ zn = N) → rv = some (.int (iN N)) ∧ am_fr [55, 56, 57, 58] zh h' ∧ (∀ zs : Nat, zs ≠ 0 → zs ≠ 4 → zs ≠ 5 → h'.1 55 zs = zh.1 55 zs) ∧ zMm (h'.1 55) (h'.1 56) zn (zGr G N) S T ∧ zHd (h'.1 57) (fun p => if p < min N zn then B p else 0) zn ∧ h'.1 55 4 = iN 0 ∧ h'.1 55 5 = iN 0 ∧ h'.1 58 = zCq (zh.1 58) (h'.1 56) 0 0 98) ∧ (¬ (1 ≤ zn ∧ zn ≤ 16 ∧ ¬ zn = N) → rv = some (.int (iN (if zn = N then N else -1))) ∧ (zh = h' ∨ (am_fr [55, 56, 57] zh h' ∧ (∀ zs : Nat, h'.1 55 zs = zh.1 55 zs) ∧ zMm (h'.1 55) (h'.1 56) N G S T ∧ zHd (h'.1 57) B N)))) := by
  obtain ⟨zd, rfl⟩ : ∃ y_e, zd = y_e + 2 := ⟨zd - 2, by omega⟩
  have q_N := q_g.1
  refine wp_run (k := 4) (pc1 := 6) (l1 := [(0, .ref 55), (1, .int (iN (zn)))]) (st1 := [.long ((16 : Int64)), .long (Int64.ofNat 1), .long ((iN (zn)).toInt64)]) (kr1 := (78, 76)) (h1 := zh) rfl ?_
  refine wp_call (md1 := am_m_Model_isIn) (As := [.long ((iN (zn)).toInt64), .long (Int64.ofNat 1), .long ((16 : Int64))]) (rest := []) (kr1 := (78, 76)) rfl (jt_isIn _ (by omega) (i2l_i (z := zn) (by omega)) (show (Int64.ofNat 1 : Int64).toInt = 1 by decide) (show ((16 : Int64) : Int64).toInt = 16 by decide)) ?_
  rintro _ _ ⟨rfl, rfl⟩
  refine wp_neb rfl (fun b_9 => ?_) (fun b_9 => ?_)
  · refine wp_run (k := 5) (pc1 := 21) (l1 := [(0, .ref 55), (1, .int (iN (zn))), (2, .int (iN (N))), (3, .int (iN (N)))]) (st1 := []) (kr1 := (78, 76)) (h1 := zh) (Eq.trans (b := (some (21, [(0, .ref 55), (1, .int (iN (zn))), (2, .int (zh.1 55 0)), (3, .int (zh.1 55 0))], [], (78, 76), zh) : Option am_C)) rfl (by simp only [q_nm.1, Int32.ofInt_add, Int32.ofInt_sub, Int32.ofInt_mul, Int32.ofInt_neg])) ?_
    refine jl_mperiods (zh := zh) (G := G) (S := S) (T := T) (B := B) _ (by omega) q_N (by omega) ?_ 18 zh N (am_fr_0 _ _) q_nm.2.2.1 q_nm.2.2.2 (fun w p y1 y2 y3 y4 => (q_nm.2.1 w p y1 y2 y3 y4).trans (congrArg iN (if_pos (show p < N from y4)).symm)) (fun p y1 y2 => (q_hd p y1 y2).trans (congrArg iN (if_pos y2).symm)) (by omega) (by omega)
    intro zg q_fr q_S q_T1 q_A q_B
    refine wp_run (k := 5) (pc1 := 44) (l1 := [(0, .ref 55), (1, .int (iN (zn))), (2, .int (iN (N))), (3, .int (iN (max N zn)))]) (st1 := [.int (iN (N)), .int (iN (zn))]) (kr1 := (78, 76)) (h1 := am_wr zg 55 0 (iN (zn))) rfl ?_
    refine wp_eq (a := zn) (b := N) rfl (by omega) (by omega) (fun b_44 => ?_) (fun b_44 => ?_)
    · refine wp_run (k := 1) (pc1 := 52) (l1 := [(0, .ref 55), (1, .int (iN (zn))), (2, .int (iN (N))), (3, .int (iN (max N zn)))]) (st1 := [.int (iN (N))]) (kr1 := (78, 76)) (h1 := am_wr zg 55 0 (iN (zn))) rfl ?_
      refine wp_ret (rv := some (.int (iN (N)))) rfl ?_
      have y_n : zn = N := by omega
      subst y_n
      refine ⟨fun y => absurd rfl y.2.2, fun _ => ⟨by rw [if_pos rfl], Or.inr ⟨am_fr_w (am_fr_m q_fr (fun c y => by simp only [List.mem_cons, List.not_mem_nil, or_false] at y ⊢; omega)) (by decide) _ _, fun zs => ?_, ⟨am_wr_at, fun w p y1 y2 y3 y4 => ?_, ?_, ?_⟩, fun p y1 y2 => ?_⟩⟩⟩
      · rw [am_wr_eq]
        by_cases y : zs = 0
        · rw [if_pos y, y]; exact q_nm.1.symm
        · rw [if_neg y, q_fr.2 55 (by decide)]
      · rw [am_wr_ne (by decide)]; exact (q_A w p y1 y2 y3 (by omega)).trans (congrArg iN (if_pos y4))
      · rw [am_wr_ne (by decide)]; exact q_S
      · rw [am_wr_ne (by decide)]; exact q_T1
      · rw [am_wr_ne (by decide)]; exact (q_B p y1 (by omega)).trans (congrArg iN (if_pos y2))
    · refine wp_run (k := 1) (pc1 := 48) (l1 := [(0, .ref 55), (1, .int (iN (zn))), (2, .int (iN (N))), (3, .int (iN (max N zn)))]) (st1 := [.ref 55]) (kr1 := (78, 76)) (h1 := am_wr zg 55 0 (iN (zn))) rfl ?_
      refine wp_call (md1 := am_m_Model_noChanges) (As := [.ref 55]) (rest := []) (kr1 := (78, 76)) rfl (jm_noChanges _ (by omega)) ?_
      rintro _ zg1 ⟨rfl, q_e1⟩
      refine wp_run (k := 1) (pc1 := 52) (l1 := [(0, .ref 55), (1, .int (iN (zn))), (2, .int (iN (N))), (3, .int (iN (max N zn)))]) (st1 := [.int (iN (N))]) (kr1 := (78, 76)) (h1 := zg1) rfl ?_
      refine wp_ret (rv := some (.int (iN (N)))) rfl ?_
      refine ⟨fun _ => ⟨rfl, ?_, ?_, ?_, ?_, ?_, ?_, ?_⟩, fun y => by omega⟩
      · rw [← q_e1]; exact am_fr_r (am_fr_r (am_fr_w (am_fr_m q_fr (fun c y => by simp only [List.mem_cons, List.not_mem_nil, or_false] at y ⊢; omega)) (by decide) _ _) (by decide) _) (by decide) _
      · intro zs y1 y2 y3; rw [← q_e1, am_row_n _ _ _ (by decide), am_row_s, zUp_n _ _ _ y3, zUp_n _ _ _ y2, am_wr_no y1, q_fr.2 55 (by decide)]
      · rw [← q_e1, am_row_n _ _ _ (by decide), am_row_s, am_row_n _ _ _ (by decide), am_row_n _ _ _ (by decide), am_wr_ne (show 56 ≠ 55 by decide)]
        refine ⟨?_, fun w p y1 y2 y3 y4 => q_A w p y1 y2 y3 (by omega), q_S, q_T1⟩
        rw [zUp_n _ _ _ (by decide), zUp_n _ _ _ (by decide), am_wr_at]
      · rw [← q_e1, am_row_n _ _ _ (by decide), am_row_n _ _ _ (by decide), am_wr_ne (by decide)]
        intro p y1 y2
        rw [q_B p y1 (by omega)]
        show _ = iN (if p < min N zn then B p else 0)
        by_cases y3 : p < N
        · rw [if_pos y3, if_pos (by omega)]
        · rw [if_neg y3, if_neg (by omega)]
      · rw [← q_e1, am_row_n _ _ _ (by decide), am_row_s, zUp_n _ _ _ (by decide), zUp_s]
      · rw [← q_e1, am_row_n _ _ _ (by decide), am_row_s, zUp_s]
      · rw [← q_e1, am_row_s, am_row_n _ 58 _ (show 56 ≠ 58 by decide), am_row_n _ 55 _ (show 56 ≠ 55 by decide), am_wr_ne (show 58 ≠ 55 by decide), q_fr.2 58 (by decide)]
  · refine wp_run (k := 1) (pc1 := 13) (l1 := [(0, .ref 55), (1, .int (iN (zn)))]) (st1 := [.int (iN (-1))]) (kr1 := (78, 76)) (h1 := zh) rfl ?_
    refine wp_ret (rv := some (.int (iN (-1)))) rfl ?_
    exact ⟨fun y => by omega, fun _ => ⟨by rw [if_neg (by omega)], Or.inl rfl⟩⟩
set_option maxRecDepth 20000 in
set_option maxHeartbeats 4000000 in
theorem jR_read (zd : Nat) (q_d : 8 ≤ zd) {zh : am_H} {N : Int} {G : Int → Int → Int} {S T : Int} {zl zu : Int} {F : Int → Int} (q_nm : zMm (zh.1 55) (zh.1 56) N G S T) (q_g : zGk N G S T) (q_l : zh.1 55 7 = iN zl) (q_r : 0 ≤ zl ∧ zl ≤ 120) (q_f : ∀ k : Int, 0 ≤ k → k < zl → zh.1 59 k.toNat = iN (F k)) (q_c : ∀ k : Int, 0 ≤ k → k < zl → 32 ≤ F k ∧ F k ≤ 126) (q_u : zh.1 55 4 = iN zu) (q_ur : 0 ≤ zu ∧ zu ≤ 12) : am_wp zd am_m_Model_read 0 [(0, .ref 55)] [] (78, 76) zh (78, 76) (fun rv h' => (0 ≤ (zTf F zl N 121 0 0 G).1 → rv = some (.int (iN (zTf F zl N 121 0 0 G).1)) ∧ ∃ zk1 : am_H, am_fr [55, 56] zh zk1 ∧ (∀ zs : Nat, zs ≠ 7 → zs ≠ 8 → zs ≠ 9 → zs ≠ 10 → zs ≠ 11 → zs ≠ 12 → zk1.1 55 zs = zh.1 55 zs) ∧ zk1.1 55 7 = iN 0 ∧ zMm (zk1.1 55) (zk1.1 56) N (zTf F zl N 121 0 0 G).2 S T ∧ zChg zk1 zu h') ∧ (¬ 0 ≤ (zTf F zl N 121 0 0 G).1 → rv = some (.int (iN (zTf F zl N 121 0 0 G).1)) ∧ am_fr [55] zh h' ∧ (∀ zs : Nat, zs ≠ 7 → zs ≠ 8 → zs ≠ 9 → zs ≠ 10 → zs ≠ 11 → zs ≠ 12 → h'.1 55 zs = zh.1 55 zs) ∧ h'.1 55 7 = iN 0)) := by
  obtain ⟨zd, rfl⟩ : ∃ y_e, zd = y_e + 8 := ⟨zd - 8, by omega⟩
  have q_N := q_g.1
  refine wp_run (k := 3) (pc1 := 5) (l1 := [(0, .ref 55)]) (st1 := [.int (iN (zl)), .ref 55]) (kr1 := (78, 76)) (h1 := zh) (Eq.trans (b := (some (5, [(0, .ref 55)], [.int (zh.1 55 7), .ref 55], (78, 76), zh) : Option am_C)) rfl (by simp only [q_l, Int32.ofInt_add, Int32.ofInt_sub, Int32.ofInt_mul, Int32.ofInt_neg])) ?_
  refine wp_run (k := 6) (pc1 := 15) (l1 := [(0, .ref 55)]) (st1 := [.int (iN (0)), .ref 55]) (kr1 := (78, 76)) (h1 := am_wr (am_wr zh 55 9 (iN (zl))) 55 7 (iN (0))) rfl ?_
  refine wp_call (md1 := am_m_Model_clauses) (As := [.ref 55, .int (iN (0))]) (rest := []) (kr1 := (78, 76)) rfl (jm_clauses0 (zh := am_wr (am_wr zh 55 9 (iN (zl))) 55 7 (iN (0))) (F := F) (zl := zl) (N := N) (G := G) (S := S) (T := T) _ (by omega) ((am_wr_no (by decide)).trans am_wr_at) q_r (fun k y1 y2 => (congrFun (am_wr_ne (by decide)) _).trans ((congrFun (am_wr_ne (by decide)) _).trans (q_f k y1 y2))) q_c (zMm_g q_nm ((am_wr_no (by decide)).trans (am_wr_no (by decide))) ((am_wr_ne (by decide)).trans (am_wr_ne (by decide)))) q_g) ?_
  rintro _ zg1 ⟨zr, rfl, q_x1, q_y1⟩
  have y_b := zTf_b (F := F) (L := zl) (N := N) 121 0 0 G (by omega) q_r.1 (by omega)
  have y_lo := zTf_lo (F := F) (L := zl) (N := N) 121 0 0 G (by omega) q_r.1
  have y_zr : (0 ≤ (zTf F zl N 121 0 0 G).1 ∧ zr = (zTf F zl N 121 0 0 G).1) ∨ ((zTf F zl N 121 0 0 G).1 < 0 ∧ zr = 0) := by
    by_cases y : 0 ≤ (zTf F zl N 121 0 0 G).1
    · exact Or.inl ⟨y, (q_x1 y).1⟩
    · exact Or.inr ⟨by omega, (q_y1 (by omega)).1⟩
  refine wp_run (k := 2) (pc1 := 20) (l1 := [(0, .ref 55), (1, .int (iN (zr)))]) (st1 := [.int (iN (zr))]) (kr1 := (78, 76)) (h1 := zg1) rfl ?_
  refine wp_ne0 (a := zr) rfl (by omega) (fun b_20 => ?_) (fun b_20 => ?_)
  · obtain ⟨_, x1, g1, y_h1⟩ := q_x1 (by omega)
    rw [← y_h1]
    have q_lnz : (zS3 (am_wr (am_wr (am_wr zh 55 9 (iN (zl))) 55 7 (iN (0))) 55 12 (iN 0)) (x1) (-1) (g1)).1 55 9 = iN zl := (zS3_s _ _ _ _ (by decide) (by decide) (by decide)).trans ((am_wr_no (by decide)).trans ((am_wr_no (by decide)).trans am_wr_at))
    have q_fz : ∀ k : Int, 0 ≤ k → k < zl → (zS3 (am_wr (am_wr (am_wr zh 55 9 (iN (zl))) 55 7 (iN (0))) 55 12 (iN 0)) (x1) (-1) (g1)).1 59 k.toNat = iN (F k) := by rw [zS3_c _ _ _ _ (by decide), am_wr_ne (by decide), am_wr_ne (by decide), am_wr_ne (by decide)]; exact q_f
    have q_nmz : zMm ((zS3 (am_wr (am_wr (am_wr zh 55 9 (iN (zl))) 55 7 (iN (0))) 55 12 (iN 0)) (x1) (-1) (g1)).1 55) ((zS3 (am_wr (am_wr (am_wr zh 55 9 (iN (zl))) 55 7 (iN (0))) 55 12 (iN 0)) (x1) (-1) (g1)).1 56) N G S T := zMm_g q_nm ((zS3_s _ _ _ _ (by decide) (by decide) (by decide)).trans ((am_wr_no (by decide)).trans ((am_wr_no (by decide)).trans (am_wr_no (by decide))))) ((zS3_c _ _ _ _ (by decide)).trans ((am_wr_ne (by decide)).trans ((am_wr_ne (by decide)).trans (am_wr_ne (by decide)))))
    refine wp_run (k := 2) (pc1 := 33) (l1 := [(0, .ref 55), (1, .int (iN (zr)))]) (st1 := [.int (iN (1)), .ref 55]) (kr1 := (78, 76)) (h1 := zS3 (am_wr (am_wr (am_wr zh 55 9 (iN (zl))) 55 7 (iN (0))) 55 12 (iN 0)) (x1) (-1) (g1)) rfl ?_
    refine wp_call (md1 := am_m_Model_clauses) (As := [.ref 55, .int (iN (1))]) (rest := []) (kr1 := (78, 76)) rfl (jm_clauses1 (zh := zS3 (am_wr (am_wr (am_wr zh 55 9 (iN (zl))) 55 7 (iN (0))) 55 12 (iN 0)) (x1) (-1) (g1)) (F := F) (zl := zl) (N := N) (G := G) (S := S) (T := T) _ (by omega) q_lnz q_r q_fz q_c q_nmz q_g (by omega)) ?_
    rintro _ zg2 ⟨zb, x2, g2, zr2, rfl, q_f2, q_n2, y_h2⟩
    have q_sl2 : ∀ zs : Nat, zs ≠ 7 → zs ≠ 8 → zs ≠ 9 → zs ≠ 10 → zs ≠ 11 → zs ≠ 12 → zg2.1 55 zs = zh.1 55 zs := by
      intro zs y7 y8 y9 y10 y11 y12
      rw [← y_h2, zS3_s _ _ _ _ y8 y10 y11, q_f2.2 55 (by decide), am_wr_no y12, zS3_s _ _ _ _ y8 y10 y11, am_wr_no y12, am_wr_no y7, am_wr_no y9]
    have q_72 : zg2.1 55 7 = iN 0 := by rw [← y_h2, zS3_s _ _ _ _ (by decide) (by decide) (by decide), q_f2.2 55 (by decide), am_wr_no (by decide), zS3_s _ _ _ _ (by decide) (by decide) (by decide), am_wr_no (by decide), am_wr_at]
    have q_f02 : am_fr [55, 56] zh zg2 := by
      refine ⟨?_, fun c y => ?_⟩
      · rw [← y_h2]; exact q_f2.1
      · have y1 : c ≠ 55 := fun z => y (by rw [z]; decide)
        have y2 : c ∉ [56] := fun z => y (by rw [List.mem_singleton.mp z]; decide)
        rw [← y_h2, zS3_c _ _ _ _ y1, q_f2.2 c y2, am_wr_ne y1, zS3_c _ _ _ _ y1, am_wr_ne y1, am_wr_ne y1, am_wr_ne y1]
    have q_nm2 : zMm (zg2.1 55) (zg2.1 56) N (zTf F zl N 121 0 0 G).2 S T := by rw [← y_h2]; exact zMm_g q_n2 (zS3_s _ _ _ _ (by decide) (by decide) (by decide)) (zS3_c _ _ _ _ (by decide))
    refine wp_run (k := 2) (pc1 := 38) (l1 := [(0, .ref 55), (1, .int (iN (zr)))]) (st1 := [.ref 55]) (kr1 := (78, 76)) (h1 := zg2) rfl ?_
    refine wp_call (md1 := am_m_Model_changed) (As := [.ref 55]) (rest := []) (kr1 := (78, 76)) rfl (jm_changed (zu := zu) _ (by omega) ((q_sl2 4 (by decide) (by decide) (by decide) (by decide) (by decide) (by decide)).trans q_u) q_ur) ?_
    rintro _ zg3 ⟨rfl, q_ch⟩
    refine wp_run (k := 1) (pc1 := 42) (l1 := [(0, .ref 55), (1, .int (iN (zr)))]) (st1 := [.int (iN (zr))]) (kr1 := (78, 76)) (h1 := zg3) rfl ?_
    refine wp_ret (rv := some (.int (iN (zr)))) rfl ?_
    exact ⟨fun _ => ⟨by rw [show zr = (zTf F zl N 121 0 0 G).1 by omega], zg2, q_f02, q_sl2, q_72, q_nm2, q_ch⟩, fun y => absurd (by omega) y⟩
  · obtain ⟨_, x1, g1, y_h1⟩ := q_y1 (by omega)
    rw [← y_h1]
    refine wp_run (k := 4) (pc1 := 30) (l1 := [(0, .ref 55), (1, .int (iN (zr)))]) (st1 := [.int (iN ((-100) - (-100 - (zTf F zl N 121 0 0 G).1)))]) (kr1 := (78, 76)) (h1 := zS3 (am_wr (am_wr (am_wr zh 55 9 (iN (zl))) 55 7 (iN (0))) 55 12 (iN 0)) (x1) (-100 - (zTf F zl N 121 0 0 G).1) (g1)) (Eq.trans (b := (some (30, [(0, .ref 55), (1, .int (iN (zr)))], [.int ((iN (-100)) - ((zS3 (am_wr (am_wr (am_wr zh 55 9 (iN (zl))) 55 7 (iN (0))) 55 12 (iN 0)) (x1) (-100 - (zTf F zl N 121 0 0 G).1) (g1)).1 55 10))], (78, 76), zS3 (am_wr (am_wr (am_wr zh 55 9 (iN (zl))) 55 7 (iN (0))) 55 12 (iN 0)) (x1) (-100 - (zTf F zl N 121 0 0 G).1) (g1)) : Option am_C)) rfl (by simp only [(show (zS3 (am_wr (am_wr (am_wr zh 55 9 (iN (zl))) 55 7 (iN (0))) 55 12 (iN 0)) (x1) (-100 - (zTf F zl N 121 0 0 G).1) (g1)).1 55 10 = iN (-100 - (zTf F zl N 121 0 0 G).1) from (zS3_a _ _ _ _).2.1)]; try simp only [Int32.ofInt_add, Int32.ofInt_sub, Int32.ofInt_mul, Int32.ofInt_neg])) ?_
    refine wp_ret (rv := some (.int (iN ((-100) - (-100 - (zTf F zl N 121 0 0 G).1))))) rfl ?_
    refine ⟨fun y => by omega, fun _ => ⟨by rw [show (-100) - (-100 - (zTf F zl N 121 0 0 G).1) = (zTf F zl N 121 0 0 G).1 by omega], ?_, ?_, ?_⟩⟩
    · exact am_fr_w (am_fr_w (am_fr_w (am_fr_w (am_fr_w (am_fr_w (am_fr_0 _ _) (by decide) _ _) (by decide) _ _) (by decide) _ _) (by decide) _ _) (by decide) _ _) (by decide) _ _
    · intro zs y7 y8 y9 y10 y11 y12; rw [zS3_s _ _ _ _ y8 y10 y11, am_wr_no y12, am_wr_no y7, am_wr_no y9]
    · rw [zS3_s _ _ _ _ (by decide) (by decide) (by decide), am_wr_no (by decide), am_wr_at]
