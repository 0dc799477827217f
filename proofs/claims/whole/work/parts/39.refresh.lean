/-! THE CLASS's Plan: refresh -/
theorem zFs_c {G : Int → Int → Int} {T zt : Int} {F F' : Int → Int} : ∀ k : Nat, (∀ y : Int, 0 ≤ y → y < k → F y = F' y) → zFs G T zt F k = zFs G T zt F' k := by
  intro k
  induction k with
  | zero => intro _; rfl
  | succ k z_ih =>
    intro q
    show zFt G (zFs G T zt F k) k (zLc G T k (zt - 1) (zt - 1 + 1 - (k : Int)).toNat) (F k) = zFt G (zFs G T zt F' k) k (zLc G T k (zt - 1) (zt - 1 + 1 - (k : Int)).toNat) (F' k)
    rw [z_ih (fun y y1 y2 => q y y1 (by omega)), q k (by omega) (by omega)]
theorem zFp_c {G : Int → Int → Int} {T zt : Int} {F F' : Int → Int} (q : ∀ y : Int, 0 ≤ y → y < zt → F y = F' y) : zFp G T zt F = zFp G T zt F' := by
  unfold zFp
  by_cases q0 : 0 ≤ zt
  · rw [zFs_c zt.toNat (fun y y1 y2 => q y y1 (by omega))]
  · rw [show zt.toNat = 0 by omega]; rfl
def zWt (G : Int → Int → Int) (T : Int) : Nat → Int → Int × Int
  | 0 => fun _ => (0, -1)
  | r + 1 => fun x => if x = (r : Int) then zFp G T x (fun y => (zWt G T r y).1) else zWt G T r x
/-- forward: the least cost of the first x periods, the first period of the last lot -/
def zWd (G : Int → Int → Int) (T x : Int) : Int × Int := zWt G T (x.toNat + 1) x
theorem zWt_v (G : Int → Int → Int) (T x : Int) (q : 0 ≤ x) : ∀ j : Nat, zWt G T (x.toNat + 1 + j) x = zWd G T x := by
  intro j
  induction j with
  | zero => rfl
  | succ j z_ih =>
    show (if x = ((x.toNat + 1 + j : Nat) : Int) then zFp G T x _ else zWt G T (x.toNat + 1 + j) x) = _
    rw [if_neg (by omega)]
    exact z_ih
theorem zWd_s (G : Int → Int → Int) (T x : Int) (q : 0 ≤ x) : zWd G T x = zFp G T x (fun y => (zWd G T y).1) := by
  show (if x = (x.toNat : Int) then zFp G T x (fun y => (zWt G T x.toNat y).1) else _) = _
  rw [if_pos (by omega)]
  exact zFp_c (fun y y1 y2 => by
    have y3 := zWt_v G T y y1 (x.toNat - (y.toNat + 1))
    rw [show y.toNat + 1 + (x.toNat - (y.toNat + 1)) = x.toNat by omega] at y3
    show (zWt G T x.toNat y).1 = _
    rw [y3])
theorem zFs_rg {N : Int} {G : Int → Int → Int} {S T : Int} (q_g : zGk N G S T) {zt : Int} {F : Int → Int} (q_t : 0 < zt ∧ zt ≤ N) (q_d : 0 < zD G 0 (zt - 1)) (q_0 : F 0 = 0) (q_F : ∀ y : Int, 0 ≤ y → y < zt → 0 ≤ F y) : ∀ k : Nat, (k : Int) ≤ zt → 0 ≤ (zFs G T zt F k).1 ∧ -1 ≤ (zFs G T zt F k).2 ∧ (zFs G T zt F k).2 < k ∧ (0 < k → (zFs G T zt F k).1 ≤ 6000000 ∧ 0 ≤ (zFs G T zt F k).2) := by
  intro k
  induction k with
  | zero => intro _; exact ⟨by show (0 : Int) ≤ 1000000000; decide, by show (-1 : Int) ≤ -1; decide, by show (-1 : Int) < ((0 : Nat) : Int); decide, fun y => absurd y (by decide)⟩
  | succ k z_ih =>
    intro q
    have y1 := z_ih (by omega)
    have y2 := q_F k (by omega) (by omega)
    have y3 := zLc_rg (T := T) q_g (a := k) (b := zt - 1) (by omega) (by omega) (zt - 1 + 1 - (k : Int)).toNat (by omega)
    have e1 : zFs G T zt F (k + 1) = zFt G (zFs G T zt F k) k (zLc G T k (zt - 1) (zt - 1 + 1 - (k : Int)).toNat) (F k) := rfl
    rw [e1]
    unfold zFt
    by_cases y4 : k = 0
    · subst y4
      have y5 := zLc_le q_g (T := T) (a := 0) (b := zt - 1) (by omega) q_d (zt - 1).toNat
      have y6 : zLc G T ((0 : Nat) : Int) (zt - 1) (zt - 1 + 1 - ((0 : Nat) : Int)).toNat ≤ 6000000 := by
        rw [show (zt - 1 + 1 - ((0 : Nat) : Int)).toNat = (zt - 1).toNat + 1 by omega]; exact y5
      rw [if_neg (by omega), if_pos (by show F ((0 : Nat) : Int) + _ ≤ (1000000000 : Int); rw [show ((0 : Nat) : Int) = 0 from rfl] at *; omega)]
      rw [show F ((0 : Nat) : Int) = 0 from q_0]
      dsimp only
      omega
    · have y7 := y1.2.2.2 (by omega)
      split
      · omega
      · split
        · dsimp only; omega
        · omega
theorem zWd_rg {N : Int} {G : Int → Int → Int} {S T : Int} (q_g : zGk N G S T) : ∀ r : Nat, (r : Int) ≤ N + 1 → ∀ x : Int, 0 ≤ x → x < r → 0 ≤ (zWd G T x).1 ∧ (zWd G T x).1 ≤ 6000000 ∧ -1 ≤ (zWd G T x).2 ∧ (zWd G T x).2 < max x 0 ∧ (0 < zD G 0 (x - 1) → 0 ≤ (zWd G T x).2) := by
  intro r
  induction r with
  | zero => intro _ x y1 y2; omega
  | succ r z_ih =>
    intro q x y1 y2
    have y3 := z_ih (by omega)
    by_cases y4 : x < r
    · exact y3 x y1 y4
    · rw [zWd_s G T x y1]
      unfold zFp
      by_cases y5 : 0 < zD G 0 (x - 1)
      · rw [if_pos y5]
        have y6 : 0 < x := by
          by_cases y7 : 0 < x
          · exact y7
          · rw [show x = 0 by omega] at y5; exact absurd y5 (by unfold zD; rw [show (0 : Int) - 1 + 1 = 0 by omega]; omega)
        have y8 : (zWd G T 0).1 = 0 := by
          rw [zWd_s G T 0 (by omega)]
          unfold zFp
          rw [if_neg (by unfold zD; rw [show (0 : Int) - 1 + 1 = 0 by omega]; omega)]
        have y9 := zFs_rg q_g (T := T) (zt := x) (F := fun y => (zWd G T y).1) (by omega) y5 y8 (fun y q1 q2 => (y3 y q1 (by omega)).1) x.toNat (by omega)
        have y10 := y9.2.2.2 (by omega)
        omega
      · rw [if_neg y5]
        dsimp only
        omega
theorem zWd_r {N : Int} {G : Int → Int → Int} {S T : Int} (q_g : zGk N G S T) {x : Int} (q_0 : 0 ≤ x) (q_x : x ≤ N) : 0 ≤ (zWd G T x).1 ∧ (zWd G T x).1 ≤ 6000000 ∧ -1 ≤ (zWd G T x).2 ∧ (zWd G T x).2 < max x 0 ∧ (0 < zD G 0 (x - 1) → 0 ≤ (zWd G T x).2) := by
  have y := q_g.1
  exact zWd_rg q_g (N + 1).toNat (by omega) x q_0 (by omega)
def zFwd (cF cL : Nat) (zg : am_H) (G : Int → Int → Int) (T zn : Int) : Prop := ∀ x : Int, 0 ≤ x → x < zn → zg.1 cF x.toNat = iN (zWd G T x).1 ∧ zg.1 cL x.toNat = iN (zWd G T x).2
theorem zTook_f {Pn cA1 cB1 cMd cSt : Nat} {zh zg : am_H} {N : Int} {G : Int → Int → Int} {T : Int} {ks : List Nat} (q_f : am_fr ks zh zg) (q1 : Pn ∉ ks) (q2 : cA1 ∉ ks) (q3 : cB1 ∉ ks) (q4 : cMd ∉ ks) (q5 : cSt ∉ ks) (q : zTook Pn cA1 cB1 cMd cSt zh N G T) : zTook Pn cA1 cB1 cMd cSt zg N G T := by
  unfold zTook
  rw [q_f.2 _ q1, q_f.2 _ q2, q_f.2 _ q3, q_f.2 _ q4, q_f.2 _ q5]
  exact q
/-- the plan of the numbers lies there -/
def zPlan_3 (zg : am_H) (N : Int) (G : Int → Int → Int) (T : Int) : Prop := zLots 5 6 7 8 zg N G T ∧ zTook 3 14 15 16 17 zg N G T ∧ zg.1 3 12 = iN (zPv G T N 0).1 ∧ zg.1 3 13 = iN (zPv G T N 0).2.2 ∧ zFwd 12 13 zg G T (N + 1)
theorem zPlan_f_3 {zh zg : am_H} {N : Int} {G : Int → Int → Int} {T : Int} {ks : List Nat} (q_f : am_fr ks zh zg) (q1 : ∀ c, c ∈ [3, 5, 6, 7, 8, 9, 10, 11, 12, 13, 14, 15, 16, 17] → c ∉ ks) (q : zPlan_3 zh N G T) : zPlan_3 zg N G T := by
  refine ⟨zLots_f q_f (q1 _ (by decide)) (q1 _ (by decide)) (q1 _ (by decide)) (q1 _ (by decide)) q.1, zTook_f q_f (q1 _ (by decide)) (q1 _ (by decide)) (q1 _ (by decide)) (q1 _ (by decide)) (q1 _ (by decide)) q.2.1, ?_⟩
  unfold zFwd
  rw [q_f.2 3 (q1 _ (by decide)), q_f.2 12 (q1 _ (by decide)), q_f.2 13 (q1 _ (by decide))]
  exact q.2.2
set_option maxRecDepth 20000 in
set_option maxHeartbeats 4000000 in
theorem jl_refr_3 (zd : Nat) (q_d : 3 ≤ zd) {zh : am_H} {N : Int} {G : Int → Int → Int} {S T : Int} (q_nm : zNm (zh.1 1) (zh.1 2) N G S T) (q_g : zGk N G S T) (q_lo : zLots 5 6 7 8 zh N G T) {zQ : Option Value → am_H → Prop} (zk : ∀ zg : am_H, am_fr [12, 13] zh zg → zFwd 12 13 zg G T (N + 1) → zQ none zg) : ∀ (z_n : Nat) (zg : am_H) (zi : Int) (q_f : am_fr [12, 13] zh zg) (q_i : 0 ≤ zi ∧ zi ≤ N + 1) (q_w : zFwd 12 13 zg G T zi), N + 1 - zi < (z_n : Int) → am_wp zd am_m_Plan_refresh 60 [(0, .ref 3), (1, .ref 1), (2, .int (iN (zi)))] [] (78, 76) zg (78, 76) zQ := by
  obtain ⟨zd, rfl⟩ : ∃ y_e, zd = y_e + 3 := ⟨zd - 3, by omega⟩
  intro z_n
  induction z_n with
  | zero => intro zg zi q_f q_i q_w q_m; omega
  | succ z_n z_ih =>
    intro zg zi q_f q_i q_w q_m
    have q_N := q_g.1
    refine wp_run (k := 2) (pc1 := 62) (l1 := [(0, .ref 3), (1, .ref 1), (2, .int (iN (zi)))]) (st1 := [.ref 1, .int (iN (zi))]) (kr1 := (78, 76)) (h1 := zg) rfl ?_
    refine wp_call (md1 := am_m_Numbers_size) (As := [.ref 1]) (rest := [.int (iN (zi))]) (kr1 := (78, 76)) rfl (jt_size_1 _ (by omega) (zNm_f q_f q_nm (by decide) (by decide)) q_g) ?_
    rintro _ _ ⟨rfl, rfl⟩
    refine wp_gt (a := zi) (b := N) rfl (by omega) (by omega) (fun b_65 => ?_) (fun b_65 => ?_)
    · refine wp_ret (rv := none) rfl ?_
      exact zk zg q_f (fun x y1 y2 => q_w x y1 (by omega))
    · refine wp_run (k := 2) (pc1 := 70) (l1 := [(0, .ref 3), (1, .ref 1), (2, .int (iN (zi)))]) (st1 := [.int (iN (zi)), .ref 3]) (kr1 := (78, 76)) (h1 := zg) rfl ?_
      refine wp_call (md1 := am_m_Plan_reckonForward) (As := [.ref 3, .int (iN (zi))]) (rest := []) (kr1 := (78, 76)) rfl (jt_rfwd_3 (S := S) (F := fun y => (zWd G T y).1) _ (by omega) q_g (zLots_f q_f (by decide) (by decide) (by decide) (by decide) q_lo) (zt := zi) (by omega) (fun x y1 y2 => ⟨(q_w x y1 y2).1, (zWd_r q_g y1 (by omega)).1, by have y3 := (zWd_r q_g (T := T) (x := x) y1 (by omega)).2.1; omega⟩)) ?_
      rintro _ _ ⟨rfl, rfl⟩
      refine wp_run (k := 2) (pc1 := 60) (l1 := [(0, .ref 3), (1, .ref 1), (2, .int (iN ((zi) + 1)))]) (st1 := []) (kr1 := (78, 76)) (h1 := am_wr (am_wr zg 12 zi.toNat (iN (zFp G T zi (fun y => (zWd G T y).1)).1)) 13 zi.toNat (iN (zFp G T zi (fun y => (zWd G T y).1)).2)) (Eq.trans (b := (some (60, [(0, .ref 3), (1, .ref 1), (2, .int ((iN (zi)) + iN (1)))], [], (78, 76), am_wr (am_wr zg 12 zi.toNat (iN (zFp G T zi (fun y => (zWd G T y).1)).1)) 13 zi.toNat (iN (zFp G T zi (fun y => (zWd G T y).1)).2)) : Option am_C)) rfl (by simp only [Int32.ofInt_add, Int32.ofInt_sub, Int32.ofInt_mul, Int32.ofInt_neg])) ?_
      refine z_ih _ (zi + 1) (am_fr_w (am_fr_w q_f (by decide) _ _) (by decide) _ _) (by omega) ?_ (by omega)
      intro x y1 y2
      rw [am_wr_ne (show 12 ≠ 13 by decide)]
      by_cases y3 : x = zi
      · rw [y3, am_wr_at, am_wr_at, ← zWd_s G T zi (by omega)]; exact ⟨rfl, rfl⟩
      · rw [am_wr_no (by omega), am_wr_no (by omega), am_wr_ne (show 13 ≠ 12 by decide)]; exact q_w x y1 (by omega)
set_option maxRecDepth 20000 in
set_option maxHeartbeats 4000000 in
theorem jt_refresh_3 (zd : Nat) (q_d : 4 ≤ zd) {zh : am_H} {N : Int} {G : Int → Int → Int} {S T : Int} {zs zk : Int} (q_nm : zNm (zh.1 1) (zh.1 2) N G S T) (q_g : zGk N G S T) (q_a0 : zh.1 8 0 = iN 0) (q_s : zh.1 1 2 = iN zs) (q_k : zh.1 3 1 = iN zk) (q_r : 0 ≤ zs ∧ zs < 2147483648 ∧ 0 ≤ zk ∧ zk < 2147483648) (q_old : zk = zs → zPlan_3 zh N G T) : am_wp zd am_m_Plan_refresh 0 [(0, .ref 3), (1, .ref 1)] [] (78, 76) zh (78, 76) (fun rv h' => rv = none ∧ am_fr [3, 5, 6, 7, 8, 9, 10, 11, 12, 13, 14, 15, 16, 17] zh h' ∧ h'.1 3 1 = iN zs ∧ zPlan_3 h' N G T) := by
  obtain ⟨zd, rfl⟩ : ∃ y_e, zd = y_e + 4 := ⟨zd - 4, by omega⟩
  have q_N := q_g.1
  refine wp_run (k := 3) (pc1 := 5) (l1 := [(0, .ref 3), (1, .ref 1)]) (st1 := [.ref 1, .int (iN (zk))]) (kr1 := (78, 76)) (h1 := zh) (Eq.trans (b := (some (5, [(0, .ref 3), (1, .ref 1)], [.ref 1, .int (zh.1 3 1)], (78, 76), zh) : Option am_C)) rfl (by simp only [q_k, Int32.ofInt_add, Int32.ofInt_sub, Int32.ofInt_mul, Int32.ofInt_neg])) ?_
  refine wp_call (md1 := am_m_Numbers_stamp) (As := [.ref 1]) (rest := [.int (iN (zk))]) (kr1 := (78, 76)) rfl (jt_stamp_1 _ (by omega) (zs := zs) q_s) ?_
  rintro _ _ ⟨rfl, rfl⟩
  refine wp_ne (a := zk) (b := zs) rfl (by omega) (by omega) (fun b_8 => ?_) (fun b_8 => ?_)
  · refine wp_run (k := 2) (pc1 := 14) (l1 := [(0, .ref 3), (1, .ref 1)]) (st1 := [.ref 1, .ref 3]) (kr1 := (78, 76)) (h1 := zh) rfl ?_
    refine wp_call (md1 := am_m_Numbers_stamp) (As := [.ref 1]) (rest := [.ref 3]) (kr1 := (78, 76)) rfl (jt_stamp_1 _ (by omega) (zs := zs) q_s) ?_
    rintro _ _ ⟨rfl, rfl⟩
    refine wp_run (k := 1) (pc1 := 20) (l1 := [(0, .ref 3), (1, .ref 1)]) (st1 := []) (kr1 := (78, 76)) (h1 := am_wr zh 3 1 (iN (zs))) rfl ?_
    have q_f0 : am_fr [3] zh (am_wr zh 3 1 (iN (zs))) := am_fr_w (am_fr_0 _ _) (by decide) _ _
    refine wp_run (k := 3) (pc1 := 25) (l1 := [(0, .ref 3), (1, .ref 1)]) (st1 := [.ref 1, .ref 4]) (kr1 := (78, 76)) (h1 := am_wr zh 3 1 (iN (zs))) rfl ?_
    refine wp_call (md1 := am_m_Lots_reckon) (As := [.ref 4, .ref 1]) (rest := []) (kr1 := (78, 76)) rfl (jt_reckon_4 (zh := am_wr zh 3 1 (iN (zs))) (S := S) (T := T) _ (by omega) (zNm_f q_f0 q_nm (by decide) (by decide)) q_g (by rw [q_f0.2 8 (by decide)]; exact q_a0)) ?_
    rintro _ zg1 ⟨rfl, q_f1a, q_lo1⟩
    have q_f1 : am_fr [3, 5, 6, 7, 8, 9, 10, 11, 12, 13, 14, 15, 16, 17] zh zg1 := am_fr_t (am_fr_m q_f0 (fun c y => by simp only [List.mem_cons, List.not_mem_nil, or_false] at y ⊢; omega)) (am_fr_m q_f1a (fun c y => by simp only [List.mem_cons, List.not_mem_nil, or_false] at y ⊢; omega))
    have q_k1 : zg1.1 3 1 = iN zs := by rw [q_f1a.2 3 (by decide), am_wr_at]
    refine wp_run (k := 4) (pc1 := 32) (l1 := [(0, .ref 3), (1, .ref 1)]) (st1 := [.ref 1, .int (iN (0)), .ref 3, .ref 3]) (kr1 := (78, 76)) (h1 := zg1) rfl ?_
    refine wp_call (md1 := am_m_Numbers_size) (As := [.ref 1]) (rest := [.int (iN (0)), .ref 3, .ref 3]) (kr1 := (78, 76)) rfl (jt_size_1 _ (by omega) (zNm_f q_f1 q_nm (by decide) (by decide)) q_g) ?_
    rintro _ _ ⟨rfl, rfl⟩
    refine wp_call (md1 := am_m_Plan_partCost) (As := [.ref 3, .int (iN (0)), .int (iN (N))]) (rest := [.ref 3]) (kr1 := (78, 76)) rfl (jt_part_3 (zh := zg1) (S := S) (T := T) (N := N) (za := 0) (zn := N) _ (by omega) q_g q_lo1 (by omega)) ?_
    rintro _ zg2 ⟨rfl, q_f2a, q_row2⟩
    have q_f2 : am_fr [3, 5, 6, 7, 8, 9, 10, 11, 12, 13, 14, 15, 16, 17] zh zg2 := am_fr_t q_f1 (am_fr_m q_f2a (fun c y => by simp only [List.mem_cons, List.not_mem_nil, or_false] at y ⊢; omega))
    refine wp_run (k := 5) (pc1 := 47) (l1 := [(0, .ref 3), (1, .ref 1)]) (st1 := [.int (iN (0)), .ref 11, .ref 3]) (kr1 := (78, 76)) (h1 := am_wr zg2 3 12 (iN ((zPv G T N 0).1))) rfl ?_
    refine wp_call (md1 := am_m_Lp_at) (As := [.ref 11, .int (iN (0))]) (rest := [.ref 3]) (kr1 := (78, 76)) rfl (jt_at _ (by omega) (zn := 17) (zi := 0) (zv := iN ((zPv G T N 0).2.2)) rfl rfl (by decide) (by omega) (by omega) ((congrFun (am_wr_ne (by decide)) _).trans (q_row2 0 (by omega) (by omega)).2.2)) ?_
    rintro _ _ ⟨rfl, rfl⟩
    refine wp_run (k := 1) (pc1 := 53) (l1 := [(0, .ref 3), (1, .ref 1)]) (st1 := []) (kr1 := (78, 76)) (h1 := am_wr (am_wr zg2 3 12 (iN ((zPv G T N 0).1))) 3 13 (iN ((zPv G T N 0).2.2))) rfl ?_
    have q_f23 : am_fr [3] zg2 (am_wr (am_wr zg2 3 12 (iN ((zPv G T N 0).1))) 3 13 (iN ((zPv G T N 0).2.2))) := am_fr_w (am_fr_w (am_fr_0 _ _) (by decide) _ _) (by decide) _ _
    have q_f3 : am_fr [3, 5, 6, 7, 8, 9, 10, 11, 12, 13, 14, 15, 16, 17] zh (am_wr (am_wr zg2 3 12 (iN ((zPv G T N 0).1))) 3 13 (iN ((zPv G T N 0).2.2))) := am_fr_t q_f2 (am_fr_m q_f23 (fun c y => by simp only [List.mem_cons, List.not_mem_nil, or_false] at y ⊢; omega))
    refine wp_run (k := 2) (pc1 := 55) (l1 := [(0, .ref 3), (1, .ref 1)]) (st1 := [.ref 1, .ref 3]) (kr1 := (78, 76)) (h1 := am_wr (am_wr zg2 3 12 (iN ((zPv G T N 0).1))) 3 13 (iN ((zPv G T N 0).2.2))) rfl ?_
    refine wp_call (md1 := am_m_Plan_takeLots) (As := [.ref 3, .ref 1]) (rest := []) (kr1 := (78, 76)) rfl (jt_take_3 (zh := am_wr (am_wr zg2 3 12 (iN ((zPv G T N 0).1))) 3 13 (iN ((zPv G T N 0).2.2))) (S := S) (T := T) (N := N) _ (by omega) (zNm_f q_f3 q_nm (by decide) (by decide)) q_g (zLots_f q_f23 (by decide) (by decide) (by decide) (by decide) (zLots_f q_f2a (by decide) (by decide) (by decide) (by decide) q_lo1)) (by unfold zRow; rw [q_f23.2 9 (by decide), q_f23.2 10 (by decide), q_f23.2 11 (by decide)]; exact q_row2)) ?_
    rintro _ zg4 ⟨rfl, q_f4a, q_sl4, q_tk4⟩
    have q_f4 : am_fr [3, 5, 6, 7, 8, 9, 10, 11, 12, 13, 14, 15, 16, 17] zh zg4 := am_fr_t q_f3 (am_fr_m q_f4a (fun c y => by simp only [List.mem_cons, List.not_mem_nil, or_false] at y ⊢; omega))
    refine wp_run (k := 2) (pc1 := 60) (l1 := [(0, .ref 3), (1, .ref 1), (2, .int (iN (0)))]) (st1 := []) (kr1 := (78, 76)) (h1 := zg4) rfl ?_
    have q_lo4 : zLots 5 6 7 8 zg4 N G T := zLots_f q_f4a (by decide) (by decide) (by decide) (by decide) (zLots_f q_f23 (by decide) (by decide) (by decide) (by decide) (zLots_f q_f2a (by decide) (by decide) (by decide) (by decide) q_lo1))
    refine jl_refr_3 (zh := zg4) (S := S) (T := T) (N := N) _ (by omega) (zNm_f q_f4 q_nm (by decide) (by decide)) q_g q_lo4 ?_ 19 zg4 0 (am_fr_0 _ _) (by omega) (fun x y1 y2 => by omega) (by omega)
    intro zg5 q_f5 q_w5
    refine ⟨rfl, am_fr_t q_f4 (am_fr_m q_f5 (fun c y => by simp only [List.mem_cons, List.not_mem_nil, or_false] at y ⊢; omega)), ?_, zLots_f q_f5 (by decide) (by decide) (by decide) (by decide) q_lo4, zTook_f q_f5 (by decide) (by decide) (by decide) (by decide) (by decide) q_tk4, ?_, ?_, q_w5⟩
    · rw [q_f5.2 3 (by decide), q_sl4 1 (by decide), am_wr_no (by decide), am_wr_no (by decide), q_f2a.2 3 (by decide)]; exact q_k1
    · rw [q_f5.2 3 (by decide), q_sl4 12 (by decide), am_wr_no (by decide), am_wr_at]
    · rw [q_f5.2 3 (by decide), q_sl4 13 (by decide), am_wr_at]
  · refine wp_ret (rv := none) rfl ?_
    have y_k : zk = zs := by omega
    exact ⟨rfl, am_fr_0 _ _, by rw [q_k, y_k], q_old y_k⟩
/-- the plan of the numbers lies there -/
def zPlan_36 (zg : am_H) (N : Int) (G : Int → Int → Int) (T : Int) : Prop := zLots 38 39 40 41 zg N G T ∧ zTook 36 47 48 49 50 zg N G T ∧ zg.1 36 12 = iN (zPv G T N 0).1 ∧ zg.1 36 13 = iN (zPv G T N 0).2.2 ∧ zFwd 45 46 zg G T (N + 1)
theorem zPlan_f_36 {zh zg : am_H} {N : Int} {G : Int → Int → Int} {T : Int} {ks : List Nat} (q_f : am_fr ks zh zg) (q1 : ∀ c, c ∈ [36, 38, 39, 40, 41, 42, 43, 44, 45, 46, 47, 48, 49, 50] → c ∉ ks) (q : zPlan_36 zh N G T) : zPlan_36 zg N G T := by
  refine ⟨zLots_f q_f (q1 _ (by decide)) (q1 _ (by decide)) (q1 _ (by decide)) (q1 _ (by decide)) q.1, zTook_f q_f (q1 _ (by decide)) (q1 _ (by decide)) (q1 _ (by decide)) (q1 _ (by decide)) (q1 _ (by decide)) q.2.1, ?_⟩
  unfold zFwd
  rw [q_f.2 36 (q1 _ (by decide)), q_f.2 45 (q1 _ (by decide)), q_f.2 46 (q1 _ (by decide))]
  exact q.2.2
set_option maxRecDepth 20000 in
set_option maxHeartbeats 4000000 in
theorem jl_refr_36 (zd : Nat) (q_d : 3 ≤ zd) {zh : am_H} {N : Int} {G : Int → Int → Int} {S T : Int} (q_nm : zNm (zh.1 34) (zh.1 35) N G S T) (q_g : zGk N G S T) (q_lo : zLots 38 39 40 41 zh N G T) {zQ : Option Value → am_H → Prop} (zk : ∀ zg : am_H, am_fr [45, 46] zh zg → zFwd 45 46 zg G T (N + 1) → zQ none zg) : ∀ (z_n : Nat) (zg : am_H) (zi : Int) (q_f : am_fr [45, 46] zh zg) (q_i : 0 ≤ zi ∧ zi ≤ N + 1) (q_w : zFwd 45 46 zg G T zi), N + 1 - zi < (z_n : Int) → am_wp zd am_m_Plan_refresh 60 [(0, .ref 36), (1, .ref 34), (2, .int (iN (zi)))] [] (78, 76) zg (78, 76) zQ := by
  obtain ⟨zd, rfl⟩ : ∃ y_e, zd = y_e + 3 := ⟨zd - 3, by omega⟩
  intro z_n
  induction z_n with
  | zero => intro zg zi q_f q_i q_w q_m; omega
  | succ z_n z_ih =>
    intro zg zi q_f q_i q_w q_m
    have q_N := q_g.1
    refine wp_run (k := 2) (pc1 := 62) (l1 := [(0, .ref 36), (1, .ref 34), (2, .int (iN (zi)))]) (st1 := [.ref 34, .int (iN (zi))]) (kr1 := (78, 76)) (h1 := zg) rfl ?_
    refine wp_call (md1 := am_m_Numbers_size) (As := [.ref 34]) (rest := [.int (iN (zi))]) (kr1 := (78, 76)) rfl (jt_size_34 _ (by omega) (zNm_f q_f q_nm (by decide) (by decide)) q_g) ?_
    rintro _ _ ⟨rfl, rfl⟩
    refine wp_gt (a := zi) (b := N) rfl (by omega) (by omega) (fun b_65 => ?_) (fun b_65 => ?_)
    · refine wp_ret (rv := none) rfl ?_
      exact zk zg q_f (fun x y1 y2 => q_w x y1 (by omega))
    · refine wp_run (k := 2) (pc1 := 70) (l1 := [(0, .ref 36), (1, .ref 34), (2, .int (iN (zi)))]) (st1 := [.int (iN (zi)), .ref 36]) (kr1 := (78, 76)) (h1 := zg) rfl ?_
      refine wp_call (md1 := am_m_Plan_reckonForward) (As := [.ref 36, .int (iN (zi))]) (rest := []) (kr1 := (78, 76)) rfl (jt_rfwd_36 (S := S) (F := fun y => (zWd G T y).1) _ (by omega) q_g (zLots_f q_f (by decide) (by decide) (by decide) (by decide) q_lo) (zt := zi) (by omega) (fun x y1 y2 => ⟨(q_w x y1 y2).1, (zWd_r q_g y1 (by omega)).1, by have y3 := (zWd_r q_g (T := T) (x := x) y1 (by omega)).2.1; omega⟩)) ?_
      rintro _ _ ⟨rfl, rfl⟩
      refine wp_run (k := 2) (pc1 := 60) (l1 := [(0, .ref 36), (1, .ref 34), (2, .int (iN ((zi) + 1)))]) (st1 := []) (kr1 := (78, 76)) (h1 := am_wr (am_wr zg 45 zi.toNat (iN (zFp G T zi (fun y => (zWd G T y).1)).1)) 46 zi.toNat (iN (zFp G T zi (fun y => (zWd G T y).1)).2)) (Eq.trans (b := (some (60, [(0, .ref 36), (1, .ref 34), (2, .int ((iN (zi)) + iN (1)))], [], (78, 76), am_wr (am_wr zg 45 zi.toNat (iN (zFp G T zi (fun y => (zWd G T y).1)).1)) 46 zi.toNat (iN (zFp G T zi (fun y => (zWd G T y).1)).2)) : Option am_C)) rfl (by simp only [Int32.ofInt_add, Int32.ofInt_sub, Int32.ofInt_mul, Int32.ofInt_neg])) ?_
      refine z_ih _ (zi + 1) (am_fr_w (am_fr_w q_f (by decide) _ _) (by decide) _ _) (by omega) ?_ (by omega)
      intro x y1 y2
      rw [am_wr_ne (show 45 ≠ 46 by decide)]
      by_cases y3 : x = zi
      · rw [y3, am_wr_at, am_wr_at, ← zWd_s G T zi (by omega)]; exact ⟨rfl, rfl⟩
      · rw [am_wr_no (by omega), am_wr_no (by omega), am_wr_ne (show 46 ≠ 45 by decide)]; exact q_w x y1 (by omega)
set_option maxRecDepth 20000 in
set_option maxHeartbeats 4000000 in
theorem jt_refresh_36 (zd : Nat) (q_d : 4 ≤ zd) {zh : am_H} {N : Int} {G : Int → Int → Int} {S T : Int} {zs zk : Int} (q_nm : zNm (zh.1 34) (zh.1 35) N G S T) (q_g : zGk N G S T) (q_a0 : zh.1 41 0 = iN 0) (q_s : zh.1 34 2 = iN zs) (q_k : zh.1 36 1 = iN zk) (q_r : 0 ≤ zs ∧ zs < 2147483648 ∧ 0 ≤ zk ∧ zk < 2147483648) (q_old : zk = zs → zPlan_36 zh N G T) : am_wp zd am_m_Plan_refresh 0 [(0, .ref 36), (1, .ref 34)] [] (78, 76) zh (78, 76) (fun rv h' => rv = none ∧ am_fr [36, 38, 39, 40, 41, 42, 43, 44, 45, 46, 47, 48, 49, 50] zh h' ∧ h'.1 36 1 = iN zs ∧ zPlan_36 h' N G T) := by
  obtain ⟨zd, rfl⟩ : ∃ y_e, zd = y_e + 4 := ⟨zd - 4, by omega⟩
  have q_N := q_g.1
  refine wp_run (k := 3) (pc1 := 5) (l1 := [(0, .ref 36), (1, .ref 34)]) (st1 := [.ref 34, .int (iN (zk))]) (kr1 := (78, 76)) (h1 := zh) (Eq.trans (b := (some (5, [(0, .ref 36), (1, .ref 34)], [.ref 34, .int (zh.1 36 1)], (78, 76), zh) : Option am_C)) rfl (by simp only [q_k, Int32.ofInt_add, Int32.ofInt_sub, Int32.ofInt_mul, Int32.ofInt_neg])) ?_
  refine wp_call (md1 := am_m_Numbers_stamp) (As := [.ref 34]) (rest := [.int (iN (zk))]) (kr1 := (78, 76)) rfl (jt_stamp_34 _ (by omega) (zs := zs) q_s) ?_
  rintro _ _ ⟨rfl, rfl⟩
  refine wp_ne (a := zk) (b := zs) rfl (by omega) (by omega) (fun b_8 => ?_) (fun b_8 => ?_)
  · refine wp_run (k := 2) (pc1 := 14) (l1 := [(0, .ref 36), (1, .ref 34)]) (st1 := [.ref 34, .ref 36]) (kr1 := (78, 76)) (h1 := zh) rfl ?_
    refine wp_call (md1 := am_m_Numbers_stamp) (As := [.ref 34]) (rest := [.ref 36]) (kr1 := (78, 76)) rfl (jt_stamp_34 _ (by omega) (zs := zs) q_s) ?_
    rintro _ _ ⟨rfl, rfl⟩
    refine wp_run (k := 1) (pc1 := 20) (l1 := [(0, .ref 36), (1, .ref 34)]) (st1 := []) (kr1 := (78, 76)) (h1 := am_wr zh 36 1 (iN (zs))) rfl ?_
    have q_f0 : am_fr [36] zh (am_wr zh 36 1 (iN (zs))) := am_fr_w (am_fr_0 _ _) (by decide) _ _
    refine wp_run (k := 3) (pc1 := 25) (l1 := [(0, .ref 36), (1, .ref 34)]) (st1 := [.ref 34, .ref 37]) (kr1 := (78, 76)) (h1 := am_wr zh 36 1 (iN (zs))) rfl ?_
    refine wp_call (md1 := am_m_Lots_reckon) (As := [.ref 37, .ref 34]) (rest := []) (kr1 := (78, 76)) rfl (jt_reckon_37 (zh := am_wr zh 36 1 (iN (zs))) (S := S) (T := T) _ (by omega) (zNm_f q_f0 q_nm (by decide) (by decide)) q_g (by rw [q_f0.2 41 (by decide)]; exact q_a0)) ?_
    rintro _ zg1 ⟨rfl, q_f1a, q_lo1⟩
    have q_f1 : am_fr [36, 38, 39, 40, 41, 42, 43, 44, 45, 46, 47, 48, 49, 50] zh zg1 := am_fr_t (am_fr_m q_f0 (fun c y => by simp only [List.mem_cons, List.not_mem_nil, or_false] at y ⊢; omega)) (am_fr_m q_f1a (fun c y => by simp only [List.mem_cons, List.not_mem_nil, or_false] at y ⊢; omega))
    have q_k1 : zg1.1 36 1 = iN zs := by rw [q_f1a.2 36 (by decide), am_wr_at]
    refine wp_run (k := 4) (pc1 := 32) (l1 := [(0, .ref 36), (1, .ref 34)]) (st1 := [.ref 34, .int (iN (0)), .ref 36, .ref 36]) (kr1 := (78, 76)) (h1 := zg1) rfl ?_
    refine wp_call (md1 := am_m_Numbers_size) (As := [.ref 34]) (rest := [.int (iN (0)), .ref 36, .ref 36]) (kr1 := (78, 76)) rfl (jt_size_34 _ (by omega) (zNm_f q_f1 q_nm (by decide) (by decide)) q_g) ?_
    rintro _ _ ⟨rfl, rfl⟩
    refine wp_call (md1 := am_m_Plan_partCost) (As := [.ref 36, .int (iN (0)), .int (iN (N))]) (rest := [.ref 36]) (kr1 := (78, 76)) rfl (jt_part_36 (zh := zg1) (S := S) (T := T) (N := N) (za := 0) (zn := N) _ (by omega) q_g q_lo1 (by omega)) ?_
    rintro _ zg2 ⟨rfl, q_f2a, q_row2⟩
    have q_f2 : am_fr [36, 38, 39, 40, 41, 42, 43, 44, 45, 46, 47, 48, 49, 50] zh zg2 := am_fr_t q_f1 (am_fr_m q_f2a (fun c y => by simp only [List.mem_cons, List.not_mem_nil, or_false] at y ⊢; omega))
    refine wp_run (k := 5) (pc1 := 47) (l1 := [(0, .ref 36), (1, .ref 34)]) (st1 := [.int (iN (0)), .ref 44, .ref 36]) (kr1 := (78, 76)) (h1 := am_wr zg2 36 12 (iN ((zPv G T N 0).1))) rfl ?_
    refine wp_call (md1 := am_m_Lp_at) (As := [.ref 44, .int (iN (0))]) (rest := [.ref 36]) (kr1 := (78, 76)) rfl (jt_at _ (by omega) (zn := 17) (zi := 0) (zv := iN ((zPv G T N 0).2.2)) rfl rfl (by decide) (by omega) (by omega) ((congrFun (am_wr_ne (by decide)) _).trans (q_row2 0 (by omega) (by omega)).2.2)) ?_
    rintro _ _ ⟨rfl, rfl⟩
    refine wp_run (k := 1) (pc1 := 53) (l1 := [(0, .ref 36), (1, .ref 34)]) (st1 := []) (kr1 := (78, 76)) (h1 := am_wr (am_wr zg2 36 12 (iN ((zPv G T N 0).1))) 36 13 (iN ((zPv G T N 0).2.2))) rfl ?_
    have q_f23 : am_fr [36] zg2 (am_wr (am_wr zg2 36 12 (iN ((zPv G T N 0).1))) 36 13 (iN ((zPv G T N 0).2.2))) := am_fr_w (am_fr_w (am_fr_0 _ _) (by decide) _ _) (by decide) _ _
    have q_f3 : am_fr [36, 38, 39, 40, 41, 42, 43, 44, 45, 46, 47, 48, 49, 50] zh (am_wr (am_wr zg2 36 12 (iN ((zPv G T N 0).1))) 36 13 (iN ((zPv G T N 0).2.2))) := am_fr_t q_f2 (am_fr_m q_f23 (fun c y => by simp only [List.mem_cons, List.not_mem_nil, or_false] at y ⊢; omega))
    refine wp_run (k := 2) (pc1 := 55) (l1 := [(0, .ref 36), (1, .ref 34)]) (st1 := [.ref 34, .ref 36]) (kr1 := (78, 76)) (h1 := am_wr (am_wr zg2 36 12 (iN ((zPv G T N 0).1))) 36 13 (iN ((zPv G T N 0).2.2))) rfl ?_
    refine wp_call (md1 := am_m_Plan_takeLots) (As := [.ref 36, .ref 34]) (rest := []) (kr1 := (78, 76)) rfl (jt_take_36 (zh := am_wr (am_wr zg2 36 12 (iN ((zPv G T N 0).1))) 36 13 (iN ((zPv G T N 0).2.2))) (S := S) (T := T) (N := N) _ (by omega) (zNm_f q_f3 q_nm (by decide) (by decide)) q_g (zLots_f q_f23 (by decide) (by decide) (by decide) (by decide) (zLots_f q_f2a (by decide) (by decide) (by decide) (by decide) q_lo1)) (by unfold zRow; rw [q_f23.2 42 (by decide), q_f23.2 43 (by decide), q_f23.2 44 (by decide)]; exact q_row2)) ?_
    rintro _ zg4 ⟨rfl, q_f4a, q_sl4, q_tk4⟩
    have q_f4 : am_fr [36, 38, 39, 40, 41, 42, 43, 44, 45, 46, 47, 48, 49, 50] zh zg4 := am_fr_t q_f3 (am_fr_m q_f4a (fun c y => by simp only [List.mem_cons, List.not_mem_nil, or_false] at y ⊢; omega))
    refine wp_run (k := 2) (pc1 := 60) (l1 := [(0, .ref 36), (1, .ref 34), (2, .int (iN (0)))]) (st1 := []) (kr1 := (78, 76)) (h1 := zg4) rfl ?_
    have q_lo4 : zLots 38 39 40 41 zg4 N G T := zLots_f q_f4a (by decide) (by decide) (by decide) (by decide) (zLots_f q_f23 (by decide) (by decide) (by decide) (by decide) (zLots_f q_f2a (by decide) (by decide) (by decide) (by decide) q_lo1))
    refine jl_refr_36 (zh := zg4) (S := S) (T := T) (N := N) _ (by omega) (zNm_f q_f4 q_nm (by decide) (by decide)) q_g q_lo4 ?_ 19 zg4 0 (am_fr_0 _ _) (by omega) (fun x y1 y2 => by omega) (by omega)
    intro zg5 q_f5 q_w5
    refine ⟨rfl, am_fr_t q_f4 (am_fr_m q_f5 (fun c y => by simp only [List.mem_cons, List.not_mem_nil, or_false] at y ⊢; omega)), ?_, zLots_f q_f5 (by decide) (by decide) (by decide) (by decide) q_lo4, zTook_f q_f5 (by decide) (by decide) (by decide) (by decide) (by decide) q_tk4, ?_, ?_, q_w5⟩
    · rw [q_f5.2 36 (by decide), q_sl4 1 (by decide), am_wr_no (by decide), am_wr_no (by decide), q_f2a.2 36 (by decide)]; exact q_k1
    · rw [q_f5.2 36 (by decide), q_sl4 12 (by decide), am_wr_no (by decide), am_wr_at]
    · rw [q_f5.2 36 (by decide), q_sl4 13 (by decide), am_wr_at]
  · refine wp_ret (rv := none) rfl ?_
    have y_k : zk = zs := by omega
    exact ⟨rfl, am_fr_0 _ _, by rw [q_k, y_k], q_old y_k⟩
