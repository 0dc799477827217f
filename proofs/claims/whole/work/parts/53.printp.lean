/-! THE PLAN PRINTED -/
theorem zLc_at {G : Int → Int → Int} {T a b : Int} : ∀ k : Nat, zLc G T a b k < 1000000000 → zCo G a b (zLm G T a b k) = zLc G T a b k := by
  intro k
  induction k with
  | zero => intro q; exact absurd q (by show ¬ (1000000000 : Int) < 1000000000; decide)
  | succ k z_ih =>
    intro q
    have e1 : zLc G T a b (k + 1) = if zIsL G T a b (a + k) ∧ zCo G a b (a + k) < zLc G T a b k then zCo G a b (a + k) else zLc G T a b k := rfl
    have e2 : zLm G T a b (k + 1) = if zIsL G T a b (a + k) ∧ zCo G a b (a + k) < zLc G T a b k then a + k else zLm G T a b k := rfl
    by_cases y1 : zIsL G T a b (a + k) ∧ zCo G a b (a + k) < zLc G T a b k
    · rw [e1, e2, if_pos y1, if_pos y1]
    · rw [e1, if_neg y1] at q
      rw [e1, e2, if_neg y1, if_neg y1]
      exact z_ih q
/-- of the k-th lot -/
def zOf (G : Int → Int → Int) (T N : Int) (k : Nat) (w : Int) : Int := if w = 0 then zLa G T N k else if w = 1 then zLb G T N k else if w = 2 then zMk G T N k else if w = 3 then zD G (zLa G T N k) (zLb G T N k) else zCo G (zLa G T N k) (zLb G T N k) (zMk G T N k)
def zCl (G : Int → Int → Int) (T N : Int) (k : Nat) : List Int := (((((((if 0 < k then [44] else []) ++ zDg (zLa G T N k)) ++ [45]) ++ zDg (zLb G T N k)) ++ [64]) ++ zDg (zMk G T N k)) ++ [58]) ++ zDg (zD G (zLa G T N k) (zLb G T N k))
/-- the plan's text -/
def zTx (G : Int → Int → Int) (T N : Int) : Nat → List Int
  | 0 => []
  | k + 1 => zTx G T N k ++ zCl G T N k
theorem zTx_s (G : Int → Int → Int) (T N : Int) (k : Nat) : zTx G T N (k + 1) = (((((((zTx G T N k ++ (if 0 < k then [44] else [])) ++ zDg (zLa G T N k)) ++ [45]) ++ zDg (zLb G T N k)) ++ [64]) ++ zDg (zMk G T N k)) ++ [58]) ++ zDg (zD G (zLa G T N k) (zLb G T N k)) := by
  show zTx G T N k ++ zCl G T N k = _
  unfold zCl
  simp only [List.append_assoc]
theorem zTx_l {N : Int} {G : Int → Int → Int} {S T : Int} (q_g : zGk N G S T) : ∀ k : Nat, (∀ j : Nat, j < k → zLq G T N j) → (zTx G T N k).length ≤ 14 * k := by
  intro k
  induction k with
  | zero => intro _; exact Nat.le_refl _
  | succ k z_ih =>
    intro q
    have y1 := z_ih (fun j y => q j (by omega))
    have y2 := zLb_rg q_g (fun j y => q j (by omega)) (q k (by omega))
    have y3 := q_g.1
    have l1 := (zDg_l (v := zLa G T N k)).2 (by omega)
    have l2 := (zDg_l (v := zLb G T N k)).2 (by omega)
    have l3 := (zDg_l (v := zMk G T N k)).2 (by omega)
    have l4 := (zDg_l (v := zD G (zLa G T N k) (zLb G T N k))).1
    have l5 : (if 0 < k then [(44 : Int)] else []).length ≤ 1 := by
      split
      · exact Nat.le_refl _
      · exact Nat.zero_le _
    rw [zTx_s]
    simp only [List.length_append, List.length_cons, List.length_nil]
    omega
set_option maxRecDepth 20000 in
set_option maxHeartbeats 4000000 in
theorem jt_ofLot (zd : Nat) (q_d : 3 ≤ zd) {zh : am_H} {N : Int} {G : Int → Int → Int} {S T zw : Int} {zK zj : Nat} (q_g : zGk N G S T) (q_lo : zLots 5 6 7 8 zh N G T) (q_lq : ∀ j : Nat, j < zK → zLq G T N j) (q_rw : ∀ j : Nat, j < zK → zh.1 14 j = iN (zLa G T N j) ∧ zh.1 15 j = iN (zLb G T N j)) (q_j : zj < zK ∧ (zj : Int) < 16) (q_w : 0 ≤ zw ∧ zw ≤ 4) : am_wp zd am_m_Plan_ofLot 0 [(0, .ref 3), (1, .int (iN ((zj : Int)))), (2, .int (iN (zw)))] [] (78, 76) zh (78, 76) (fun rv h' => rv = some (.int (iN (zOf G T N zj zw))) ∧ zh = h') := by
  obtain ⟨zd, rfl⟩ : ∃ y_e, zd = y_e + 3 := ⟨zd - 3, by omega⟩
  have q_N := q_g.1
  have y_b := zLb_rg q_g (fun j y => q_lq j (by omega)) (q_lq zj q_j.1)
  refine wp_run (k := 3) (pc1 := 5) (l1 := [(0, .ref 3), (1, .int (iN ((zj : Int)))), (2, .int (iN (zw)))]) (st1 := [.int (iN ((zj : Int))), .ref 14]) (kr1 := (78, 76)) (h1 := zh) rfl ?_
  refine wp_call (md1 := am_m_Lp_at) (As := [.ref 14, .int (iN ((zj : Int)))]) (rest := []) (kr1 := (78, 76)) rfl (jt_at _ (by omega) (zn := 16) (zi := (zj : Int)) (zv := iN (zLa G T N zj)) rfl rfl (by decide) (by omega) (by omega) ((q_rw zj q_j.1).1)) ?_
  rintro _ _ ⟨rfl, rfl⟩
  refine wp_run (k := 4) (pc1 := 14) (l1 := [(0, .ref 3), (1, .int (iN ((zj : Int)))), (2, .int (iN (zw))), (3, .int (iN (zLa G T N zj)))]) (st1 := [.int (iN ((zj : Int))), .ref 15]) (kr1 := (78, 76)) (h1 := zh) rfl ?_
  refine wp_call (md1 := am_m_Lp_at) (As := [.ref 15, .int (iN ((zj : Int)))]) (rest := []) (kr1 := (78, 76)) rfl (jt_at _ (by omega) (zn := 16) (zi := (zj : Int)) (zv := iN (zLb G T N zj)) rfl rfl (by decide) (by omega) (by omega) ((q_rw zj q_j.1).2)) ?_
  rintro _ _ ⟨rfl, rfl⟩
  refine wp_run (k := 2) (pc1 := 20) (l1 := [(0, .ref 3), (1, .int (iN ((zj : Int)))), (2, .int (iN (zw))), (3, .int (iN (zLa G T N zj))), (4, .int (iN (zLb G T N zj)))]) (st1 := [.int (iN (zw))]) (kr1 := (78, 76)) (h1 := zh) rfl ?_
  rcases (show zw = 0 ∨ zw = 1 ∨ zw = 2 ∨ zw = 3 ∨ (zw < 0 ∨ 3 < zw) by omega) with y_sw | y_sw | y_sw | y_sw | y_sw
  · refine wp_swc (b := 0) (tg := 52) y_sw rfl (by decide) ?_
    refine wp_run (k := 1) (pc1 := 53) (l1 := [(0, .ref 3), (1, .int (iN ((zj : Int)))), (2, .int (iN (zw))), (3, .int (iN (zLa G T N zj))), (4, .int (iN (zLb G T N zj)))]) (st1 := [.int (iN (zLa G T N zj))]) (kr1 := (78, 76)) (h1 := zh) rfl ?_
    refine wp_ret (rv := some (.int (iN (zLa G T N zj)))) rfl ?_
    exact ⟨by unfold zOf; rw [if_pos (by omega)], rfl⟩
  · refine wp_swc (b := 1) (tg := 54) y_sw rfl (by decide) ?_
    refine wp_run (k := 1) (pc1 := 56) (l1 := [(0, .ref 3), (1, .int (iN ((zj : Int)))), (2, .int (iN (zw))), (3, .int (iN (zLa G T N zj))), (4, .int (iN (zLb G T N zj)))]) (st1 := [.int (iN (zLb G T N zj))]) (kr1 := (78, 76)) (h1 := zh) rfl ?_
    refine wp_ret (rv := some (.int (iN (zLb G T N zj)))) rfl ?_
    exact ⟨by unfold zOf; rw [if_neg (by omega), if_pos (by omega)], rfl⟩
  · refine wp_swc (b := 2) (tg := 57) y_sw rfl (by decide) ?_
    refine wp_run (k := 4) (pc1 := 64) (l1 := [(0, .ref 3), (1, .int (iN ((zj : Int)))), (2, .int (iN (zw))), (3, .int (iN (zLa G T N zj))), (4, .int (iN (zLb G T N zj)))]) (st1 := [.int (iN (zLb G T N zj)), .int (iN (zLa G T N zj)), .ref 4]) (kr1 := (78, 76)) (h1 := zh) rfl ?_
    refine wp_call (md1 := am_m_Lots_makerOf) (As := [.ref 4, .int (iN (zLa G T N zj)), .int (iN (zLb G T N zj))]) (rest := []) (kr1 := (78, 76)) rfl (jt_makerOf_4 _ (by omega) (za := zLa G T N zj) (zb := zLb G T N zj) (by omega) ((q_lo.2 (zLa G T N zj) (zLb G T N zj) (by omega) (by omega) (by omega)).2 y_b.2.2.2.1).1) ?_
    rintro _ _ ⟨rfl, rfl⟩
    refine wp_ret (rv := some (.int (iN (zMk G T N zj)))) rfl ?_
    exact ⟨by unfold zOf; rw [if_neg (by omega), if_neg (by omega), if_pos (by omega)], rfl⟩
  · refine wp_swc (b := 3) (tg := 68) y_sw rfl (by decide) ?_
    refine wp_run (k := 4) (pc1 := 75) (l1 := [(0, .ref 3), (1, .int (iN ((zj : Int)))), (2, .int (iN (zw))), (3, .int (iN (zLa G T N zj))), (4, .int (iN (zLb G T N zj)))]) (st1 := [.int (iN (zLb G T N zj)), .int (iN (zLa G T N zj)), .ref 4]) (kr1 := (78, 76)) (h1 := zh) rfl ?_
    refine wp_call (md1 := am_m_Lots_pieces) (As := [.ref 4, .int (iN (zLa G T N zj)), .int (iN (zLb G T N zj))]) (rest := []) (kr1 := (78, 76)) rfl (jt_lpieces_4 _ (by omega) q_lo.1 q_N.2 (za := zLa G T N zj) (zb := zLb G T N zj) (by omega)) ?_
    rintro _ _ ⟨rfl, rfl⟩
    refine wp_ret (rv := some (.int (iN (zD G (zLa G T N zj) (zLb G T N zj))))) rfl ?_
    exact ⟨by unfold zOf; rw [if_neg (by omega), if_neg (by omega), if_neg (by omega), if_pos (by omega)], rfl⟩
  · refine wp_swd (lo := 0) (hi := 3) (tg := 79) rfl (by omega) y_sw ?_
    refine wp_run (k := 4) (pc1 := 86) (l1 := [(0, .ref 3), (1, .int (iN ((zj : Int)))), (2, .int (iN (zw))), (3, .int (iN (zLa G T N zj))), (4, .int (iN (zLb G T N zj)))]) (st1 := [.int (iN (zLb G T N zj)), .int (iN (zLa G T N zj)), .ref 4]) (kr1 := (78, 76)) (h1 := zh) rfl ?_
    refine wp_call (md1 := am_m_Lots_costOf) (As := [.ref 4, .int (iN (zLa G T N zj)), .int (iN (zLb G T N zj))]) (rest := []) (kr1 := (78, 76)) rfl (jt_costOf_4 _ (by omega) (za := zLa G T N zj) (zb := zLb G T N zj) (by omega) (q_lo.2 (zLa G T N zj) (zLb G T N zj) (by omega) (by omega) (by omega)).1) ?_
    rintro _ _ ⟨rfl, rfl⟩
    refine wp_ret (rv := some (.int (iN (zLc G T (zLa G T N zj) (zLb G T N zj) (zLb G T N zj + 1 - zLa G T N zj).toNat)))) rfl ?_
    exact ⟨by rw [← zLc_at _ y_b.2.2.2.1]; unfold zOf; rw [if_neg (by omega), if_neg (by omega), if_neg (by omega), if_neg (by omega)]; rfl, rfl⟩
set_option maxRecDepth 20000 in
set_option maxHeartbeats 4000000 in
theorem jt_psign (zd : Nat) (q_d : 1 ≤ zd) {zh : am_H} {zl : List Int} {zi : Int} (q_p : zPr 30 29 1 zh zl) (q_n : zl.length ≤ 256) (q_i : 0 ≤ zi ∧ zi < zl.length) : am_wp zd am_m_Printed_sign 0 [(0, .ref 29), (1, .int (iN (zi)))] [] (78, 76) zh (78, 76) (fun rv h' => rv = some (.int (iN (zl.getD zi.toNat 0))) ∧ zh = h') := by
  obtain ⟨zd, rfl⟩ : ∃ y_e, zd = y_e + 1 := ⟨zd - 1, by omega⟩
  refine wp_run (k := 3) (pc1 := 5) (l1 := [(0, .ref 29), (1, .int (iN (zi)))]) (st1 := [.ref 30, .int (iN (zi))]) (kr1 := (78, 76)) (h1 := zh) rfl ?_
  refine wp_alen (v := 256) rfl rfl ?_
  refine wp_call (md1 := am_m_Lp_inside) (As := [.int (iN (zi)), .int (iN (256))]) (rest := []) (kr1 := (78, 76)) rfl (jt_inside _ (by omega) (zi := zi) (ze := 256) (by omega) (by omega)) ?_
  rintro _ _ ⟨rfl, rfl⟩
  refine wp_eqb rfl (fun b_9 => ?_) (fun b_9 => ?_)
  · exact absurd b_9 (by omega)
  · refine wp_run (k := 3) (pc1 := 17) (l1 := [(0, .ref 29), (1, .int (iN (zi)))]) (st1 := [.int (iN (zi)), .ref 30]) (kr1 := (78, 76)) (h1 := zh) rfl ?_
    refine wp_cald (z := zi) (j := zi.toNat) (n := 256) (v := iN (zl.getD zi.toNat 0)) rfl (by decide) (by decide) rfl rfl (by omega) (by omega) (by decide) (q_p.2 _ (by omega)) ?_
    refine wp_run (k := 1) (pc1 := 22) (l1 := [(0, .ref 29), (1, .int (iN (zi)))]) (st1 := [.int (iN (zl.getD zi.toNat 0))]) (kr1 := (78, 76)) (h1 := zh) rfl ?_
    refine wp_ret (rv := some (.int (iN (zl.getD zi.toNat 0)))) rfl ?_
    exact ⟨rfl, rfl⟩
set_option maxRecDepth 20000 in
set_option maxHeartbeats 4000000 in
theorem jl_pwrite (zd : Nat) (q_d : 4 ≤ zd) {zh : am_H} {N : Int} {G : Int → Int → Int} {S T : Int} {zK : Nat} (q_g : zGk N G S T) (q_lo : zLots 5 6 7 8 zh N G T) (q_n : zIsN G T N zK) (q_cn : zh.1 3 11 = iN (zK : Int)) (q_rw : ∀ j : Nat, j < zK → zh.1 14 j = iN (zLa G T N j) ∧ zh.1 15 j = iN (zLb G T N j)) {zQ : Option Value → am_H → Prop} (zk : ∀ zg : am_H, am_fr [29, 30] zh zg → zPr 30 29 1 zg (zTx G T N zK) → zQ none zg) : ∀ (z_n : Nat) (zg : am_H) (zj : Nat) (q_f : am_fr [29, 30] zh zg) (q_j : zj ≤ zK) (q_p : zPr 30 29 1 zg (zTx G T N zj)), (zK : Int) - zj < (z_n : Int) → am_wp zd am_m_Printed_write 7 [(0, .ref 29), (1, .ref 3), (2, .int (iN ((zj : Int))))] [] (78, 76) zg (78, 76) zQ := by
  obtain ⟨zd, rfl⟩ : ∃ y_e, zd = y_e + 4 := ⟨zd - 4, by omega⟩
  intro z_n
  induction z_n with
  | zero => intro zg zj q_f q_j q_p q_m; omega
  | succ z_n z_ih =>
    intro zg zj q_f q_j q_p q_m
    have q_N := q_g.1
    have y_K := zIsN_le q_g q_n
    refine wp_run (k := 2) (pc1 := 9) (l1 := [(0, .ref 29), (1, .ref 3), (2, .int (iN ((zj : Int))))]) (st1 := [.ref 3, .int (iN ((zj : Int)))]) (kr1 := (78, 76)) (h1 := zg) rfl ?_
    refine wp_call (md1 := am_m_Plan_lots) (As := [.ref 3]) (rest := [.int (iN ((zj : Int)))]) (kr1 := (78, 76)) rfl (jg_Plan_lots_3 _ (by omega) (zv := (zK : Int)) ((congrFun (q_f.2 3 (by decide)) 11).trans q_cn)) ?_
    rintro _ _ ⟨rfl, rfl⟩
    refine wp_ge (a := (zj : Int)) (b := (zK : Int)) rfl (by omega) (by omega) (fun b_12 => ?_) (fun b_12 => ?_)
    · refine wp_ret (rv := none) rfl ?_
      exact zk zg q_f (by rw [show zK = zj by omega]; exact q_p)
    · have y_b := zLb_rg q_g (fun j y => q_n.1 j (by omega)) (q_n.1 zj (by omega))
      have y_d := zD_rg q_g (a := zLa G T N zj) (b := zLb G T N zj) (by omega) (by omega) (by omega)
      have y_tl := zTx_l q_g zj (fun j y => q_n.1 j (by omega))
      have l_1 := (zDg_l (v := zLa G T N zj)).2 (by omega)
      have l_2 := (zDg_l (v := zLb G T N zj)).2 (by omega)
      have l_3 := (zDg_l (v := zMk G T N zj)).2 (by omega)
      have l_4 := (zDg_l (v := zD G (zLa G T N zj) (zLb G T N zj))).1
      refine wp_run (k := 1) (pc1 := 16) (l1 := [(0, .ref 29), (1, .ref 3), (2, .int (iN ((zj : Int))))]) (st1 := [.int (iN ((zj : Int)))]) (kr1 := (78, 76)) (h1 := zg) rfl ?_
      refine wp_le0 (a := (zj : Int)) rfl (by omega) (fun b_16 => ?_) (fun b_16 => ?_)
      · refine wp_run (k := 4) (pc1 := 29) (l1 := [(0, .ref 29), (1, .ref 3), (2, .int (iN ((zj : Int))))]) (st1 := [.int (iN (0)), .int (iN ((zj : Int))), .ref 3, .ref 29]) (kr1 := (78, 76)) (h1 := zg) rfl ?_
        refine wp_call (md1 := am_m_Plan_ofLot) (As := [.ref 3, .int (iN ((zj : Int))), .int (iN (0))]) (rest := [.ref 29]) (kr1 := (78, 76)) rfl (jt_ofLot (zK := zK) (zj := zj) (zw := 0) _ (by omega) q_g (zLots_f q_f (by decide) (by decide) (by decide) (by decide) q_lo) q_n.1 (by rw [q_f.2 14 (by decide), q_f.2 15 (by decide)]; exact q_rw) (by omega) (by omega)) ?_
        rintro _ _ ⟨rfl, rfl⟩
        refine wp_call (md1 := am_m_Printed_addNumber) (As := [.ref 29, .int (iN (zLa G T N zj))]) (rest := []) (kr1 := (78, 76)) rfl (jt_pnum (zl := zTx G T N zj) (zv := zLa G T N zj) _ (by omega) q_p (by (try simp only [List.length_append, List.length_cons, List.length_nil]); omega) (by omega)) ?_
        rintro _ zg1 ⟨rfl, q_fb1, q_p1⟩
        have q_fa1 : am_fr [29, 30] zh zg1 := am_fr_t q_f q_fb1
        have y_l1 : ((zTx G T N zj ++ zDg (zLa G T N zj))).length = _ := List.length_append
        refine wp_run (k := 2) (pc1 := 38) (l1 := [(0, .ref 29), (1, .ref 3), (2, .int (iN ((zj : Int))))]) (st1 := [.int (iN (45)), .ref 29]) (kr1 := (78, 76)) (h1 := zg1) rfl ?_
        refine wp_call (md1 := am_m_Printed_add) (As := [.ref 29, .int (iN (45))]) (rest := []) (kr1 := (78, 76)) rfl (jt_padd (zl := (zTx G T N zj ++ zDg (zLa G T N zj))) (zc := 45) _ (by omega) q_p1 (by (try simp only [List.length_append, List.length_cons, List.length_nil]); omega) (by omega)) ?_
        rintro _ zg2 ⟨rfl, q_fb2, q_p2⟩
        have q_fa2 : am_fr [29, 30] zh zg2 := am_fr_t q_fa1 q_fb2
        have y_l2 : (((zTx G T N zj ++ zDg (zLa G T N zj)) ++ [45])).length = _ := List.length_append
        refine wp_run (k := 4) (pc1 := 45) (l1 := [(0, .ref 29), (1, .ref 3), (2, .int (iN ((zj : Int))))]) (st1 := [.int (iN (1)), .int (iN ((zj : Int))), .ref 3, .ref 29]) (kr1 := (78, 76)) (h1 := zg2) rfl ?_
        refine wp_call (md1 := am_m_Plan_ofLot) (As := [.ref 3, .int (iN ((zj : Int))), .int (iN (1))]) (rest := [.ref 29]) (kr1 := (78, 76)) rfl (jt_ofLot (zK := zK) (zj := zj) (zw := 1) _ (by omega) q_g (zLots_f q_fa2 (by decide) (by decide) (by decide) (by decide) q_lo) q_n.1 (by rw [q_fa2.2 14 (by decide), q_fa2.2 15 (by decide)]; exact q_rw) (by omega) (by omega)) ?_
        rintro _ _ ⟨rfl, rfl⟩
        refine wp_call (md1 := am_m_Printed_addNumber) (As := [.ref 29, .int (iN (zLb G T N zj))]) (rest := []) (kr1 := (78, 76)) rfl (jt_pnum (zl := ((zTx G T N zj ++ zDg (zLa G T N zj)) ++ [45])) (zv := zLb G T N zj) _ (by omega) q_p2 (by (try simp only [List.length_append, List.length_cons, List.length_nil]); omega) (by omega)) ?_
        rintro _ zg3 ⟨rfl, q_fb3, q_p3⟩
        have q_fa3 : am_fr [29, 30] zh zg3 := am_fr_t q_fa2 q_fb3
        have y_l3 : ((((zTx G T N zj ++ zDg (zLa G T N zj)) ++ [45]) ++ zDg (zLb G T N zj))).length = _ := List.length_append
        refine wp_run (k := 2) (pc1 := 54) (l1 := [(0, .ref 29), (1, .ref 3), (2, .int (iN ((zj : Int))))]) (st1 := [.int (iN (64)), .ref 29]) (kr1 := (78, 76)) (h1 := zg3) rfl ?_
        refine wp_call (md1 := am_m_Printed_add) (As := [.ref 29, .int (iN (64))]) (rest := []) (kr1 := (78, 76)) rfl (jt_padd (zl := (((zTx G T N zj ++ zDg (zLa G T N zj)) ++ [45]) ++ zDg (zLb G T N zj))) (zc := 64) _ (by omega) q_p3 (by (try simp only [List.length_append, List.length_cons, List.length_nil]); omega) (by omega)) ?_
        rintro _ zg4 ⟨rfl, q_fb4, q_p4⟩
        have q_fa4 : am_fr [29, 30] zh zg4 := am_fr_t q_fa3 q_fb4
        have y_l4 : (((((zTx G T N zj ++ zDg (zLa G T N zj)) ++ [45]) ++ zDg (zLb G T N zj)) ++ [64])).length = _ := List.length_append
        refine wp_run (k := 4) (pc1 := 61) (l1 := [(0, .ref 29), (1, .ref 3), (2, .int (iN ((zj : Int))))]) (st1 := [.int (iN (2)), .int (iN ((zj : Int))), .ref 3, .ref 29]) (kr1 := (78, 76)) (h1 := zg4) rfl ?_
        refine wp_call (md1 := am_m_Plan_ofLot) (As := [.ref 3, .int (iN ((zj : Int))), .int (iN (2))]) (rest := [.ref 29]) (kr1 := (78, 76)) rfl (jt_ofLot (zK := zK) (zj := zj) (zw := 2) _ (by omega) q_g (zLots_f q_fa4 (by decide) (by decide) (by decide) (by decide) q_lo) q_n.1 (by rw [q_fa4.2 14 (by decide), q_fa4.2 15 (by decide)]; exact q_rw) (by omega) (by omega)) ?_
        rintro _ _ ⟨rfl, rfl⟩
        refine wp_call (md1 := am_m_Printed_addNumber) (As := [.ref 29, .int (iN (zMk G T N zj))]) (rest := []) (kr1 := (78, 76)) rfl (jt_pnum (zl := ((((zTx G T N zj ++ zDg (zLa G T N zj)) ++ [45]) ++ zDg (zLb G T N zj)) ++ [64])) (zv := zMk G T N zj) _ (by omega) q_p4 (by (try simp only [List.length_append, List.length_cons, List.length_nil]); omega) (by omega)) ?_
        rintro _ zg5 ⟨rfl, q_fb5, q_p5⟩
        have q_fa5 : am_fr [29, 30] zh zg5 := am_fr_t q_fa4 q_fb5
        have y_l5 : ((((((zTx G T N zj ++ zDg (zLa G T N zj)) ++ [45]) ++ zDg (zLb G T N zj)) ++ [64]) ++ zDg (zMk G T N zj))).length = _ := List.length_append
        refine wp_run (k := 2) (pc1 := 70) (l1 := [(0, .ref 29), (1, .ref 3), (2, .int (iN ((zj : Int))))]) (st1 := [.int (iN (58)), .ref 29]) (kr1 := (78, 76)) (h1 := zg5) rfl ?_
        refine wp_call (md1 := am_m_Printed_add) (As := [.ref 29, .int (iN (58))]) (rest := []) (kr1 := (78, 76)) rfl (jt_padd (zl := (((((zTx G T N zj ++ zDg (zLa G T N zj)) ++ [45]) ++ zDg (zLb G T N zj)) ++ [64]) ++ zDg (zMk G T N zj))) (zc := 58) _ (by omega) q_p5 (by (try simp only [List.length_append, List.length_cons, List.length_nil]); omega) (by omega)) ?_
        rintro _ zg6 ⟨rfl, q_fb6, q_p6⟩
        have q_fa6 : am_fr [29, 30] zh zg6 := am_fr_t q_fa5 q_fb6
        have y_l6 : (((((((zTx G T N zj ++ zDg (zLa G T N zj)) ++ [45]) ++ zDg (zLb G T N zj)) ++ [64]) ++ zDg (zMk G T N zj)) ++ [58])).length = _ := List.length_append
        refine wp_run (k := 4) (pc1 := 77) (l1 := [(0, .ref 29), (1, .ref 3), (2, .int (iN ((zj : Int))))]) (st1 := [.int (iN (3)), .int (iN ((zj : Int))), .ref 3, .ref 29]) (kr1 := (78, 76)) (h1 := zg6) rfl ?_
        refine wp_call (md1 := am_m_Plan_ofLot) (As := [.ref 3, .int (iN ((zj : Int))), .int (iN (3))]) (rest := [.ref 29]) (kr1 := (78, 76)) rfl (jt_ofLot (zK := zK) (zj := zj) (zw := 3) _ (by omega) q_g (zLots_f q_fa6 (by decide) (by decide) (by decide) (by decide) q_lo) q_n.1 (by rw [q_fa6.2 14 (by decide), q_fa6.2 15 (by decide)]; exact q_rw) (by omega) (by omega)) ?_
        rintro _ _ ⟨rfl, rfl⟩
        refine wp_call (md1 := am_m_Printed_addNumber) (As := [.ref 29, .int (iN (zD G (zLa G T N zj) (zLb G T N zj)))]) (rest := []) (kr1 := (78, 76)) rfl (jt_pnum (zl := ((((((zTx G T N zj ++ zDg (zLa G T N zj)) ++ [45]) ++ zDg (zLb G T N zj)) ++ [64]) ++ zDg (zMk G T N zj)) ++ [58])) (zv := zD G (zLa G T N zj) (zLb G T N zj)) _ (by omega) q_p6 (by (try simp only [List.length_append, List.length_cons, List.length_nil]); omega) (by omega)) ?_
        rintro _ zg7 ⟨rfl, q_fb7, q_p7⟩
        have q_fa7 : am_fr [29, 30] zh zg7 := am_fr_t q_fa6 q_fb7
        have y_l7 : ((((((((zTx G T N zj ++ zDg (zLa G T N zj)) ++ [45]) ++ zDg (zLb G T N zj)) ++ [64]) ++ zDg (zMk G T N zj)) ++ [58]) ++ zDg (zD G (zLa G T N zj) (zLb G T N zj)))).length = _ := List.length_append
        refine wp_run (k := 2) (pc1 := 7) (l1 := [(0, .ref 29), (1, .ref 3), (2, .int (iN (((zj : Int)) + 1)))]) (st1 := []) (kr1 := (78, 76)) (h1 := zg7) (Eq.trans (b := (some (7, [(0, .ref 29), (1, .ref 3), (2, .int ((iN ((zj : Int))) + iN (1)))], [], (78, 76), zg7) : Option am_C)) rfl (by simp only [Int32.ofInt_add, Int32.ofInt_sub, Int32.ofInt_mul, Int32.ofInt_neg])) ?_
        refine z_ih zg7 (zj + 1) q_fa7 (by omega) ?_ (by omega)
        rw [zTx_s, if_neg (by omega)]
        rw [List.append_nil]
        exact q_p7
      · refine wp_run (k := 2) (pc1 := 22) (l1 := [(0, .ref 29), (1, .ref 3), (2, .int (iN ((zj : Int))))]) (st1 := [.int (iN (44)), .ref 29]) (kr1 := (78, 76)) (h1 := zg) rfl ?_
        refine wp_call (md1 := am_m_Printed_add) (As := [.ref 29, .int (iN (44))]) (rest := []) (kr1 := (78, 76)) rfl (jt_padd (zl := zTx G T N zj) (zc := 44) _ (by omega) q_p (by (try simp only [List.length_append, List.length_cons, List.length_nil]); omega) (by omega)) ?_
        rintro _ zg8 ⟨rfl, q_fb8, q_p8⟩
        have q_fa8 : am_fr [29, 30] zh zg8 := am_fr_t q_f q_fb8
        have y_l8 : ((zTx G T N zj ++ [44])).length = _ := List.length_append
        refine wp_run (k := 4) (pc1 := 29) (l1 := [(0, .ref 29), (1, .ref 3), (2, .int (iN ((zj : Int))))]) (st1 := [.int (iN (0)), .int (iN ((zj : Int))), .ref 3, .ref 29]) (kr1 := (78, 76)) (h1 := zg8) rfl ?_
        refine wp_call (md1 := am_m_Plan_ofLot) (As := [.ref 3, .int (iN ((zj : Int))), .int (iN (0))]) (rest := [.ref 29]) (kr1 := (78, 76)) rfl (jt_ofLot (zK := zK) (zj := zj) (zw := 0) _ (by omega) q_g (zLots_f q_fa8 (by decide) (by decide) (by decide) (by decide) q_lo) q_n.1 (by rw [q_fa8.2 14 (by decide), q_fa8.2 15 (by decide)]; exact q_rw) (by omega) (by omega)) ?_
        rintro _ _ ⟨rfl, rfl⟩
        refine wp_call (md1 := am_m_Printed_addNumber) (As := [.ref 29, .int (iN (zLa G T N zj))]) (rest := []) (kr1 := (78, 76)) rfl (jt_pnum (zl := (zTx G T N zj ++ [44])) (zv := zLa G T N zj) _ (by omega) q_p8 (by (try simp only [List.length_append, List.length_cons, List.length_nil]); omega) (by omega)) ?_
        rintro _ zg9 ⟨rfl, q_fb9, q_p9⟩
        have q_fa9 : am_fr [29, 30] zh zg9 := am_fr_t q_fa8 q_fb9
        have y_l9 : (((zTx G T N zj ++ [44]) ++ zDg (zLa G T N zj))).length = _ := List.length_append
        refine wp_run (k := 2) (pc1 := 38) (l1 := [(0, .ref 29), (1, .ref 3), (2, .int (iN ((zj : Int))))]) (st1 := [.int (iN (45)), .ref 29]) (kr1 := (78, 76)) (h1 := zg9) rfl ?_
        refine wp_call (md1 := am_m_Printed_add) (As := [.ref 29, .int (iN (45))]) (rest := []) (kr1 := (78, 76)) rfl (jt_padd (zl := ((zTx G T N zj ++ [44]) ++ zDg (zLa G T N zj))) (zc := 45) _ (by omega) q_p9 (by (try simp only [List.length_append, List.length_cons, List.length_nil]); omega) (by omega)) ?_
        rintro _ zg10 ⟨rfl, q_fb10, q_p10⟩
        have q_fa10 : am_fr [29, 30] zh zg10 := am_fr_t q_fa9 q_fb10
        have y_l10 : ((((zTx G T N zj ++ [44]) ++ zDg (zLa G T N zj)) ++ [45])).length = _ := List.length_append
        refine wp_run (k := 4) (pc1 := 45) (l1 := [(0, .ref 29), (1, .ref 3), (2, .int (iN ((zj : Int))))]) (st1 := [.int (iN (1)), .int (iN ((zj : Int))), .ref 3, .ref 29]) (kr1 := (78, 76)) (h1 := zg10) rfl ?_
        refine wp_call (md1 := am_m_Plan_ofLot) (As := [.ref 3, .int (iN ((zj : Int))), .int (iN (1))]) (rest := [.ref 29]) (kr1 := (78, 76)) rfl (jt_ofLot (zK := zK) (zj := zj) (zw := 1) _ (by omega) q_g (zLots_f q_fa10 (by decide) (by decide) (by decide) (by decide) q_lo) q_n.1 (by rw [q_fa10.2 14 (by decide), q_fa10.2 15 (by decide)]; exact q_rw) (by omega) (by omega)) ?_
        rintro _ _ ⟨rfl, rfl⟩
        refine wp_call (md1 := am_m_Printed_addNumber) (As := [.ref 29, .int (iN (zLb G T N zj))]) (rest := []) (kr1 := (78, 76)) rfl (jt_pnum (zl := (((zTx G T N zj ++ [44]) ++ zDg (zLa G T N zj)) ++ [45])) (zv := zLb G T N zj) _ (by omega) q_p10 (by (try simp only [List.length_append, List.length_cons, List.length_nil]); omega) (by omega)) ?_
        rintro _ zg11 ⟨rfl, q_fb11, q_p11⟩
        have q_fa11 : am_fr [29, 30] zh zg11 := am_fr_t q_fa10 q_fb11
        have y_l11 : (((((zTx G T N zj ++ [44]) ++ zDg (zLa G T N zj)) ++ [45]) ++ zDg (zLb G T N zj))).length = _ := List.length_append
        refine wp_run (k := 2) (pc1 := 54) (l1 := [(0, .ref 29), (1, .ref 3), (2, .int (iN ((zj : Int))))]) (st1 := [.int (iN (64)), .ref 29]) (kr1 := (78, 76)) (h1 := zg11) rfl ?_
        refine wp_call (md1 := am_m_Printed_add) (As := [.ref 29, .int (iN (64))]) (rest := []) (kr1 := (78, 76)) rfl (jt_padd (zl := ((((zTx G T N zj ++ [44]) ++ zDg (zLa G T N zj)) ++ [45]) ++ zDg (zLb G T N zj))) (zc := 64) _ (by omega) q_p11 (by (try simp only [List.length_append, List.length_cons, List.length_nil]); omega) (by omega)) ?_
        rintro _ zg12 ⟨rfl, q_fb12, q_p12⟩
        have q_fa12 : am_fr [29, 30] zh zg12 := am_fr_t q_fa11 q_fb12
        have y_l12 : ((((((zTx G T N zj ++ [44]) ++ zDg (zLa G T N zj)) ++ [45]) ++ zDg (zLb G T N zj)) ++ [64])).length = _ := List.length_append
        refine wp_run (k := 4) (pc1 := 61) (l1 := [(0, .ref 29), (1, .ref 3), (2, .int (iN ((zj : Int))))]) (st1 := [.int (iN (2)), .int (iN ((zj : Int))), .ref 3, .ref 29]) (kr1 := (78, 76)) (h1 := zg12) rfl ?_
        refine wp_call (md1 := am_m_Plan_ofLot) (As := [.ref 3, .int (iN ((zj : Int))), .int (iN (2))]) (rest := [.ref 29]) (kr1 := (78, 76)) rfl (jt_ofLot (zK := zK) (zj := zj) (zw := 2) _ (by omega) q_g (zLots_f q_fa12 (by decide) (by decide) (by decide) (by decide) q_lo) q_n.1 (by rw [q_fa12.2 14 (by decide), q_fa12.2 15 (by decide)]; exact q_rw) (by omega) (by omega)) ?_
        rintro _ _ ⟨rfl, rfl⟩
        refine wp_call (md1 := am_m_Printed_addNumber) (As := [.ref 29, .int (iN (zMk G T N zj))]) (rest := []) (kr1 := (78, 76)) rfl (jt_pnum (zl := (((((zTx G T N zj ++ [44]) ++ zDg (zLa G T N zj)) ++ [45]) ++ zDg (zLb G T N zj)) ++ [64])) (zv := zMk G T N zj) _ (by omega) q_p12 (by (try simp only [List.length_append, List.length_cons, List.length_nil]); omega) (by omega)) ?_
        rintro _ zg13 ⟨rfl, q_fb13, q_p13⟩
        have q_fa13 : am_fr [29, 30] zh zg13 := am_fr_t q_fa12 q_fb13
        have y_l13 : (((((((zTx G T N zj ++ [44]) ++ zDg (zLa G T N zj)) ++ [45]) ++ zDg (zLb G T N zj)) ++ [64]) ++ zDg (zMk G T N zj))).length = _ := List.length_append
        refine wp_run (k := 2) (pc1 := 70) (l1 := [(0, .ref 29), (1, .ref 3), (2, .int (iN ((zj : Int))))]) (st1 := [.int (iN (58)), .ref 29]) (kr1 := (78, 76)) (h1 := zg13) rfl ?_
        refine wp_call (md1 := am_m_Printed_add) (As := [.ref 29, .int (iN (58))]) (rest := []) (kr1 := (78, 76)) rfl (jt_padd (zl := ((((((zTx G T N zj ++ [44]) ++ zDg (zLa G T N zj)) ++ [45]) ++ zDg (zLb G T N zj)) ++ [64]) ++ zDg (zMk G T N zj))) (zc := 58) _ (by omega) q_p13 (by (try simp only [List.length_append, List.length_cons, List.length_nil]); omega) (by omega)) ?_
        rintro _ zg14 ⟨rfl, q_fb14, q_p14⟩
        have q_fa14 : am_fr [29, 30] zh zg14 := am_fr_t q_fa13 q_fb14
        have y_l14 : ((((((((zTx G T N zj ++ [44]) ++ zDg (zLa G T N zj)) ++ [45]) ++ zDg (zLb G T N zj)) ++ [64]) ++ zDg (zMk G T N zj)) ++ [58])).length = _ := List.length_append
        refine wp_run (k := 4) (pc1 := 77) (l1 := [(0, .ref 29), (1, .ref 3), (2, .int (iN ((zj : Int))))]) (st1 := [.int (iN (3)), .int (iN ((zj : Int))), .ref 3, .ref 29]) (kr1 := (78, 76)) (h1 := zg14) rfl ?_
        refine wp_call (md1 := am_m_Plan_ofLot) (As := [.ref 3, .int (iN ((zj : Int))), .int (iN (3))]) (rest := [.ref 29]) (kr1 := (78, 76)) rfl (jt_ofLot (zK := zK) (zj := zj) (zw := 3) _ (by omega) q_g (zLots_f q_fa14 (by decide) (by decide) (by decide) (by decide) q_lo) q_n.1 (by rw [q_fa14.2 14 (by decide), q_fa14.2 15 (by decide)]; exact q_rw) (by omega) (by omega)) ?_
        rintro _ _ ⟨rfl, rfl⟩
        refine wp_call (md1 := am_m_Printed_addNumber) (As := [.ref 29, .int (iN (zD G (zLa G T N zj) (zLb G T N zj)))]) (rest := []) (kr1 := (78, 76)) rfl (jt_pnum (zl := (((((((zTx G T N zj ++ [44]) ++ zDg (zLa G T N zj)) ++ [45]) ++ zDg (zLb G T N zj)) ++ [64]) ++ zDg (zMk G T N zj)) ++ [58])) (zv := zD G (zLa G T N zj) (zLb G T N zj)) _ (by omega) q_p14 (by (try simp only [List.length_append, List.length_cons, List.length_nil]); omega) (by omega)) ?_
        rintro _ zg15 ⟨rfl, q_fb15, q_p15⟩
        have q_fa15 : am_fr [29, 30] zh zg15 := am_fr_t q_fa14 q_fb15
        have y_l15 : (((((((((zTx G T N zj ++ [44]) ++ zDg (zLa G T N zj)) ++ [45]) ++ zDg (zLb G T N zj)) ++ [64]) ++ zDg (zMk G T N zj)) ++ [58]) ++ zDg (zD G (zLa G T N zj) (zLb G T N zj)))).length = _ := List.length_append
        refine wp_run (k := 2) (pc1 := 7) (l1 := [(0, .ref 29), (1, .ref 3), (2, .int (iN (((zj : Int)) + 1)))]) (st1 := []) (kr1 := (78, 76)) (h1 := zg15) (Eq.trans (b := (some (7, [(0, .ref 29), (1, .ref 3), (2, .int ((iN ((zj : Int))) + iN (1)))], [], (78, 76), zg15) : Option am_C)) rfl (by simp only [Int32.ofInt_add, Int32.ofInt_sub, Int32.ofInt_mul, Int32.ofInt_neg])) ?_
        refine z_ih zg15 (zj + 1) q_fa15 (by omega) ?_ (by omega)
        rw [zTx_s, if_pos (by omega)]
        exact q_p15
set_option maxRecDepth 20000 in
set_option maxHeartbeats 4000000 in
theorem jt_pwrite (zd : Nat) (q_d : 4 ≤ zd) {zh : am_H} {N : Int} {G : Int → Int → Int} {S T : Int} {zK : Nat} (q_g : zGk N G S T) (q_lo : zLots 5 6 7 8 zh N G T) (q_n : zIsN G T N zK) (q_cn : zh.1 3 11 = iN (zK : Int)) (q_rw : ∀ j : Nat, j < zK → zh.1 14 j = iN (zLa G T N j) ∧ zh.1 15 j = iN (zLb G T N j)) : am_wp zd am_m_Printed_write 0 [(0, .ref 29), (1, .ref 3)] [] (78, 76) zh (78, 76) (fun rv h' => rv = none ∧ am_fr [29, 30] zh h' ∧ zPr 30 29 1 h' (zTx G T N zK)) := by
  obtain ⟨zd, rfl⟩ : ∃ y_e, zd = y_e + 4 := ⟨zd - 4, by omega⟩
  have q_N := q_g.1
  have y_K := zIsN_le q_g q_n
  refine wp_run (k := 5) (pc1 := 7) (l1 := [(0, .ref 29), (1, .ref 3), (2, .int (iN (0)))]) (st1 := []) (kr1 := (78, 76)) (h1 := am_wr zh 29 1 (iN (0))) rfl ?_
  exact jl_pwrite (zh := zh) _ (by omega) q_g q_lo q_n q_cn q_rw (fun zg y1 y2 => ⟨rfl, y1, y2⟩) 20 (am_wr zh 29 1 (iN (0))) 0 (am_fr_w (am_fr_0 _ _) (by decide) _ _) (by omega) ⟨by rw [am_wr_at]; rfl, fun i y => absurd y (Nat.not_lt_zero _)⟩ (by omega)
set_option maxRecDepth 20000 in
set_option maxHeartbeats 4000000 in
theorem jl_mprints (zd : Nat) (q_d : 5 ≤ zd) {zh : am_H} {N : Int} {G : Int → Int → Int} {S T : Int} {zK : Nat} (q_nm : zMm (zh.1 55) (zh.1 56) N G S T) (q_g : zGk N G S T) (q_n : zIsN G T N zK) (q_cn : zh.1 55 20 = iN (zK : Int)) (q_rw : ∀ j : Nat, j < zK → zh.1 63 j = iN (zLa G T N j) ∧ zh.1 64 j = iN (zLb G T N j) ∧ zh.1 65 j = iN (zMk G T N j)) {zQ : Option Value → am_H → Prop} (zk : ∀ zg : am_H, am_fr [55, 73] zh zg → (∀ zs : Nat, zs ≠ 31 → zg.1 55 zs = zh.1 55 zs) → zPr 73 55 31 zg (zTx G T N zK) → zQ none zg) : ∀ (z_n : Nat) (zg : am_H) (zj : Nat) (q_f : am_fr [55, 73] zh zg) (q_sl : ∀ zs : Nat, zs ≠ 31 → zg.1 55 zs = zh.1 55 zs) (q_j : zj ≤ zK) (q_p : zPr 73 55 31 zg (zTx G T N zj)), (zK : Int) - zj < (z_n : Int) → am_wp zd am_m_Model_prints 12 [(0, .ref 55), (1, .int (iN ((zj : Int))))] [] (78, 76) zg (78, 76) zQ := by
  obtain ⟨zd, rfl⟩ : ∃ y_e, zd = y_e + 5 := ⟨zd - 5, by omega⟩
  intro z_n
  induction z_n with
  | zero => intro zg zj q_f q_sl q_j q_p q_m; omega
  | succ z_n z_ih =>
    intro zg zj q_f q_sl q_j q_p q_m
    have q_N := q_g.1
    have y_K := zIsN_le q_g q_n
    refine wp_run (k := 3) (pc1 := 17) (l1 := [(0, .ref 55), (1, .int (iN ((zj : Int))))]) (st1 := [.int (iN ((zK : Int))), .int (iN ((zj : Int)))]) (kr1 := (78, 76)) (h1 := zg) (Eq.trans (b := (some (17, [(0, .ref 55), (1, .int (iN ((zj : Int))))], [.int (zg.1 55 20), .int (iN ((zj : Int)))], (78, 76), zg) : Option am_C)) rfl (by simp only [(q_sl 20 (by decide)).trans q_cn, Int32.ofInt_add, Int32.ofInt_sub, Int32.ofInt_mul, Int32.ofInt_neg])) ?_
    refine wp_ge (a := (zj : Int)) (b := (zK : Int)) rfl (by omega) (by omega) (fun b_17 => ?_) (fun b_17 => ?_)
    · refine wp_ret (rv := none) rfl ?_
      exact zk zg q_f q_sl (by rw [show zK = zj by omega]; exact q_p)
    · have y_b := zLb_rg q_g (fun j y => q_n.1 j (by omega)) (q_n.1 zj (by omega))
      have y_d := zD_rg q_g (a := zLa G T N zj) (b := zLb G T N zj) (by omega) (by omega) (by omega)
      have y_tl := zTx_l q_g zj (fun j y => q_n.1 j (by omega))
      have l_1 := (zDg_l (v := zLa G T N zj)).2 (by omega)
      have l_2 := (zDg_l (v := zLb G T N zj)).2 (by omega)
      have l_3 := (zDg_l (v := zMk G T N zj)).2 (by omega)
      have l_4 := (zDg_l (v := zD G (zLa G T N zj) (zLb G T N zj))).1
      refine wp_run (k := 1) (pc1 := 21) (l1 := [(0, .ref 55), (1, .int (iN ((zj : Int))))]) (st1 := [.int (iN ((zj : Int)))]) (kr1 := (78, 76)) (h1 := zg) rfl ?_
      refine wp_le0 (a := (zj : Int)) rfl (by omega) (fun b_21 => ?_) (fun b_21 => ?_)
      · refine wp_run (k := 4) (pc1 := 36) (l1 := [(0, .ref 55), (1, .int (iN ((zj : Int))))]) (st1 := [.int (iN ((zj : Int))), .ref 63, .ref 55]) (kr1 := (78, 76)) (h1 := zg) rfl ?_
        refine wp_iald (f := zg.1 63) (z := (zj : Int)) (j := zj) (n := 16) (v := iN (zLa G T N zj)) rfl rfl rfl (by omega) (by decide) ((congrFun (q_f.2 63 (by decide)) _).trans (q_rw zj (by omega)).1) ?_
        refine wp_call (md1 := am_m_Model_saysNumber) (As := [.ref 55, .int (iN (zLa G T N zj))]) (rest := []) (kr1 := (78, 76)) rfl (jl_says4 (zl := zTx G T N zj) (zv := zLa G T N zj) _ (by omega) q_p (by (try simp only [List.length_append, List.length_cons, List.length_nil]); omega) (by omega)) ?_
        rintro _ zg1 ⟨rfl, q_fb1, q_sb1, q_p1⟩
        have q_fa1 : am_fr [55, 73] zh zg1 := am_fr_t q_f q_fb1
        have q_sa1 : ∀ zs : Nat, zs ≠ 31 → zg1.1 55 zs = zh.1 55 zs := fun zs y => (q_sb1 zs y).trans (q_sl zs y)
        refine wp_run (k := 2) (pc1 := 43) (l1 := [(0, .ref 55), (1, .int (iN ((zj : Int))))]) (st1 := [.int (iN (45)), .ref 55]) (kr1 := (78, 76)) (h1 := zg1) rfl ?_
        refine wp_call (md1 := am_m_Model_says) (As := [.ref 55, .int (iN (45))]) (rest := []) (kr1 := (78, 76)) rfl (jm_says (zl := (zTx G T N zj ++ zDg (zLa G T N zj))) (zc := 45) _ (by omega) q_p1 (by (try simp only [List.length_append, List.length_cons, List.length_nil]); omega)) ?_
        rintro _ zg2 ⟨rfl, q_fb2, q_sb2, q_p2⟩
        have q_fa2 : am_fr [55, 73] zh zg2 := am_fr_t q_fa1 q_fb2
        have q_sa2 : ∀ zs : Nat, zs ≠ 31 → zg2.1 55 zs = zh.1 55 zs := fun zs y => (q_sb2 zs y).trans (q_sa1 zs y)
        refine wp_run (k := 4) (pc1 := 52) (l1 := [(0, .ref 55), (1, .int (iN ((zj : Int))))]) (st1 := [.int (iN ((zj : Int))), .ref 64, .ref 55]) (kr1 := (78, 76)) (h1 := zg2) rfl ?_
        refine wp_iald (f := zg2.1 64) (z := (zj : Int)) (j := zj) (n := 16) (v := iN (zLb G T N zj)) rfl rfl rfl (by omega) (by decide) ((congrFun (q_fa2.2 64 (by decide)) _).trans (q_rw zj (by omega)).2.1) ?_
        refine wp_call (md1 := am_m_Model_saysNumber) (As := [.ref 55, .int (iN (zLb G T N zj))]) (rest := []) (kr1 := (78, 76)) rfl (jl_says4 (zl := ((zTx G T N zj ++ zDg (zLa G T N zj)) ++ [45])) (zv := zLb G T N zj) _ (by omega) q_p2 (by (try simp only [List.length_append, List.length_cons, List.length_nil]); omega) (by omega)) ?_
        rintro _ zg3 ⟨rfl, q_fb3, q_sb3, q_p3⟩
        have q_fa3 : am_fr [55, 73] zh zg3 := am_fr_t q_fa2 q_fb3
        have q_sa3 : ∀ zs : Nat, zs ≠ 31 → zg3.1 55 zs = zh.1 55 zs := fun zs y => (q_sb3 zs y).trans (q_sa2 zs y)
        refine wp_run (k := 2) (pc1 := 59) (l1 := [(0, .ref 55), (1, .int (iN ((zj : Int))))]) (st1 := [.int (iN (64)), .ref 55]) (kr1 := (78, 76)) (h1 := zg3) rfl ?_
        refine wp_call (md1 := am_m_Model_says) (As := [.ref 55, .int (iN (64))]) (rest := []) (kr1 := (78, 76)) rfl (jm_says (zl := (((zTx G T N zj ++ zDg (zLa G T N zj)) ++ [45]) ++ zDg (zLb G T N zj))) (zc := 64) _ (by omega) q_p3 (by (try simp only [List.length_append, List.length_cons, List.length_nil]); omega)) ?_
        rintro _ zg4 ⟨rfl, q_fb4, q_sb4, q_p4⟩
        have q_fa4 : am_fr [55, 73] zh zg4 := am_fr_t q_fa3 q_fb4
        have q_sa4 : ∀ zs : Nat, zs ≠ 31 → zg4.1 55 zs = zh.1 55 zs := fun zs y => (q_sb4 zs y).trans (q_sa3 zs y)
        refine wp_run (k := 4) (pc1 := 68) (l1 := [(0, .ref 55), (1, .int (iN ((zj : Int))))]) (st1 := [.int (iN ((zj : Int))), .ref 65, .ref 55]) (kr1 := (78, 76)) (h1 := zg4) rfl ?_
        refine wp_iald (f := zg4.1 65) (z := (zj : Int)) (j := zj) (n := 16) (v := iN (zMk G T N zj)) rfl rfl rfl (by omega) (by decide) ((congrFun (q_fa4.2 65 (by decide)) _).trans (q_rw zj (by omega)).2.2) ?_
        refine wp_call (md1 := am_m_Model_saysNumber) (As := [.ref 55, .int (iN (zMk G T N zj))]) (rest := []) (kr1 := (78, 76)) rfl (jl_says4 (zl := ((((zTx G T N zj ++ zDg (zLa G T N zj)) ++ [45]) ++ zDg (zLb G T N zj)) ++ [64])) (zv := zMk G T N zj) _ (by omega) q_p4 (by (try simp only [List.length_append, List.length_cons, List.length_nil]); omega) (by omega)) ?_
        rintro _ zg5 ⟨rfl, q_fb5, q_sb5, q_p5⟩
        have q_fa5 : am_fr [55, 73] zh zg5 := am_fr_t q_fa4 q_fb5
        have q_sa5 : ∀ zs : Nat, zs ≠ 31 → zg5.1 55 zs = zh.1 55 zs := fun zs y => (q_sb5 zs y).trans (q_sa4 zs y)
        refine wp_run (k := 2) (pc1 := 75) (l1 := [(0, .ref 55), (1, .int (iN ((zj : Int))))]) (st1 := [.int (iN (58)), .ref 55]) (kr1 := (78, 76)) (h1 := zg5) rfl ?_
        refine wp_call (md1 := am_m_Model_says) (As := [.ref 55, .int (iN (58))]) (rest := []) (kr1 := (78, 76)) rfl (jm_says (zl := (((((zTx G T N zj ++ zDg (zLa G T N zj)) ++ [45]) ++ zDg (zLb G T N zj)) ++ [64]) ++ zDg (zMk G T N zj))) (zc := 58) _ (by omega) q_p5 (by (try simp only [List.length_append, List.length_cons, List.length_nil]); omega)) ?_
        rintro _ zg6 ⟨rfl, q_fb6, q_sb6, q_p6⟩
        have q_fa6 : am_fr [55, 73] zh zg6 := am_fr_t q_fa5 q_fb6
        have q_sa6 : ∀ zs : Nat, zs ≠ 31 → zg6.1 55 zs = zh.1 55 zs := fun zs y => (q_sb6 zs y).trans (q_sa5 zs y)
        refine wp_run (k := 5) (pc1 := 85) (l1 := [(0, .ref 55), (1, .int (iN ((zj : Int))))]) (st1 := [.int (iN ((zj : Int))), .ref 63, .ref 55, .ref 55]) (kr1 := (78, 76)) (h1 := zg6) rfl ?_
        refine wp_iald (f := zg6.1 63) (z := (zj : Int)) (j := zj) (n := 16) (v := iN (zLa G T N zj)) rfl rfl rfl (by omega) (by decide) ((congrFun (q_fa6.2 63 (by decide)) _).trans (q_rw zj (by omega)).1) ?_
        refine wp_run (k := 3) (pc1 := 91) (l1 := [(0, .ref 55), (1, .int (iN ((zj : Int))))]) (st1 := [.int (iN ((zj : Int))), .ref 64, .int (iN (zLa G T N zj)), .ref 55, .ref 55]) (kr1 := (78, 76)) (h1 := zg6) rfl ?_
        refine wp_iald (f := zg6.1 64) (z := (zj : Int)) (j := zj) (n := 16) (v := iN (zLb G T N zj)) rfl rfl rfl (by omega) (by decide) ((congrFun (q_fa6.2 64 (by decide)) _).trans (q_rw zj (by omega)).2.1) ?_
        refine wp_call (md1 := am_m_Model_demand) (As := [.ref 55, .int (iN (zLa G T N zj)), .int (iN (zLb G T N zj))]) (rest := [.ref 55]) (kr1 := (78, 76)) rfl (jm_demand _ (by omega) (zMm_g q_nm (q_sa6 0 (by decide)) (q_fa6.2 56 (by decide))) q_g (za := zLa G T N zj) (zb := zLb G T N zj) (by omega)) ?_
        rintro _ _ ⟨rfl, rfl⟩
        refine wp_call (md1 := am_m_Model_saysNumber) (As := [.ref 55, .int (iN (zD G (zLa G T N zj) (zLb G T N zj)))]) (rest := []) (kr1 := (78, 76)) rfl (jl_says4 (zl := ((((((zTx G T N zj ++ zDg (zLa G T N zj)) ++ [45]) ++ zDg (zLb G T N zj)) ++ [64]) ++ zDg (zMk G T N zj)) ++ [58])) (zv := zD G (zLa G T N zj) (zLb G T N zj)) _ (by omega) q_p6 (by (try simp only [List.length_append, List.length_cons, List.length_nil]); omega) (by omega)) ?_
        rintro _ zg7 ⟨rfl, q_fb7, q_sb7, q_p7⟩
        have q_fa7 : am_fr [55, 73] zh zg7 := am_fr_t q_fa6 q_fb7
        have q_sa7 : ∀ zs : Nat, zs ≠ 31 → zg7.1 55 zs = zh.1 55 zs := fun zs y => (q_sb7 zs y).trans (q_sa6 zs y)
        refine wp_run (k := 2) (pc1 := 12) (l1 := [(0, .ref 55), (1, .int (iN (((zj : Int)) + 1)))]) (st1 := []) (kr1 := (78, 76)) (h1 := zg7) (Eq.trans (b := (some (12, [(0, .ref 55), (1, .int ((iN ((zj : Int))) + iN (1)))], [], (78, 76), zg7) : Option am_C)) rfl (by simp only [Int32.ofInt_add, Int32.ofInt_sub, Int32.ofInt_mul, Int32.ofInt_neg])) ?_
        refine z_ih zg7 (zj + 1) q_fa7 q_sa7 (by omega) ?_ (by omega)
        rw [zTx_s, if_neg (by omega)]
        rw [List.append_nil]
        exact q_p7
      · refine wp_run (k := 2) (pc1 := 27) (l1 := [(0, .ref 55), (1, .int (iN ((zj : Int))))]) (st1 := [.int (iN (44)), .ref 55]) (kr1 := (78, 76)) (h1 := zg) rfl ?_
        refine wp_call (md1 := am_m_Model_says) (As := [.ref 55, .int (iN (44))]) (rest := []) (kr1 := (78, 76)) rfl (jm_says (zl := zTx G T N zj) (zc := 44) _ (by omega) q_p (by (try simp only [List.length_append, List.length_cons, List.length_nil]); omega)) ?_
        rintro _ zg8 ⟨rfl, q_fb8, q_sb8, q_p8⟩
        have q_fa8 : am_fr [55, 73] zh zg8 := am_fr_t q_f q_fb8
        have q_sa8 : ∀ zs : Nat, zs ≠ 31 → zg8.1 55 zs = zh.1 55 zs := fun zs y => (q_sb8 zs y).trans (q_sl zs y)
        refine wp_run (k := 4) (pc1 := 36) (l1 := [(0, .ref 55), (1, .int (iN ((zj : Int))))]) (st1 := [.int (iN ((zj : Int))), .ref 63, .ref 55]) (kr1 := (78, 76)) (h1 := zg8) rfl ?_
        refine wp_iald (f := zg8.1 63) (z := (zj : Int)) (j := zj) (n := 16) (v := iN (zLa G T N zj)) rfl rfl rfl (by omega) (by decide) ((congrFun (q_fa8.2 63 (by decide)) _).trans (q_rw zj (by omega)).1) ?_
        refine wp_call (md1 := am_m_Model_saysNumber) (As := [.ref 55, .int (iN (zLa G T N zj))]) (rest := []) (kr1 := (78, 76)) rfl (jl_says4 (zl := (zTx G T N zj ++ [44])) (zv := zLa G T N zj) _ (by omega) q_p8 (by (try simp only [List.length_append, List.length_cons, List.length_nil]); omega) (by omega)) ?_
        rintro _ zg9 ⟨rfl, q_fb9, q_sb9, q_p9⟩
        have q_fa9 : am_fr [55, 73] zh zg9 := am_fr_t q_fa8 q_fb9
        have q_sa9 : ∀ zs : Nat, zs ≠ 31 → zg9.1 55 zs = zh.1 55 zs := fun zs y => (q_sb9 zs y).trans (q_sa8 zs y)
        refine wp_run (k := 2) (pc1 := 43) (l1 := [(0, .ref 55), (1, .int (iN ((zj : Int))))]) (st1 := [.int (iN (45)), .ref 55]) (kr1 := (78, 76)) (h1 := zg9) rfl ?_
        refine wp_call (md1 := am_m_Model_says) (As := [.ref 55, .int (iN (45))]) (rest := []) (kr1 := (78, 76)) rfl (jm_says (zl := ((zTx G T N zj ++ [44]) ++ zDg (zLa G T N zj))) (zc := 45) _ (by omega) q_p9 (by (try simp only [List.length_append, List.length_cons, List.length_nil]); omega)) ?_
        rintro _ zg10 ⟨rfl, q_fb10, q_sb10, q_p10⟩
        have q_fa10 : am_fr [55, 73] zh zg10 := am_fr_t q_fa9 q_fb10
        have q_sa10 : ∀ zs : Nat, zs ≠ 31 → zg10.1 55 zs = zh.1 55 zs := fun zs y => (q_sb10 zs y).trans (q_sa9 zs y)
        refine wp_run (k := 4) (pc1 := 52) (l1 := [(0, .ref 55), (1, .int (iN ((zj : Int))))]) (st1 := [.int (iN ((zj : Int))), .ref 64, .ref 55]) (kr1 := (78, 76)) (h1 := zg10) rfl ?_
        refine wp_iald (f := zg10.1 64) (z := (zj : Int)) (j := zj) (n := 16) (v := iN (zLb G T N zj)) rfl rfl rfl (by omega) (by decide) ((congrFun (q_fa10.2 64 (by decide)) _).trans (q_rw zj (by omega)).2.1) ?_
        refine wp_call (md1 := am_m_Model_saysNumber) (As := [.ref 55, .int (iN (zLb G T N zj))]) (rest := []) (kr1 := (78, 76)) rfl (jl_says4 (zl := (((zTx G T N zj ++ [44]) ++ zDg (zLa G T N zj)) ++ [45])) (zv := zLb G T N zj) _ (by omega) q_p10 (by (try simp only [List.length_append, List.length_cons, List.length_nil]); omega) (by omega)) ?_
        rintro _ zg11 ⟨rfl, q_fb11, q_sb11, q_p11⟩
        have q_fa11 : am_fr [55, 73] zh zg11 := am_fr_t q_fa10 q_fb11
        have q_sa11 : ∀ zs : Nat, zs ≠ 31 → zg11.1 55 zs = zh.1 55 zs := fun zs y => (q_sb11 zs y).trans (q_sa10 zs y)
        refine wp_run (k := 2) (pc1 := 59) (l1 := [(0, .ref 55), (1, .int (iN ((zj : Int))))]) (st1 := [.int (iN (64)), .ref 55]) (kr1 := (78, 76)) (h1 := zg11) rfl ?_
        refine wp_call (md1 := am_m_Model_says) (As := [.ref 55, .int (iN (64))]) (rest := []) (kr1 := (78, 76)) rfl (jm_says (zl := ((((zTx G T N zj ++ [44]) ++ zDg (zLa G T N zj)) ++ [45]) ++ zDg (zLb G T N zj))) (zc := 64) _ (by omega) q_p11 (by (try simp only [List.length_append, List.length_cons, List.length_nil]); omega)) ?_
        rintro _ zg12 ⟨rfl, q_fb12, q_sb12, q_p12⟩
        have q_fa12 : am_fr [55, 73] zh zg12 := am_fr_t q_fa11 q_fb12
        have q_sa12 : ∀ zs : Nat, zs ≠ 31 → zg12.1 55 zs = zh.1 55 zs := fun zs y => (q_sb12 zs y).trans (q_sa11 zs y)
        refine wp_run (k := 4) (pc1 := 68) (l1 := [(0, .ref 55), (1, .int (iN ((zj : Int))))]) (st1 := [.int (iN ((zj : Int))), .ref 65, .ref 55]) (kr1 := (78, 76)) (h1 := zg12) rfl ?_
        refine wp_iald (f := zg12.1 65) (z := (zj : Int)) (j := zj) (n := 16) (v := iN (zMk G T N zj)) rfl rfl rfl (by omega) (by decide) ((congrFun (q_fa12.2 65 (by decide)) _).trans (q_rw zj (by omega)).2.2) ?_
        refine wp_call (md1 := am_m_Model_saysNumber) (As := [.ref 55, .int (iN (zMk G T N zj))]) (rest := []) (kr1 := (78, 76)) rfl (jl_says4 (zl := (((((zTx G T N zj ++ [44]) ++ zDg (zLa G T N zj)) ++ [45]) ++ zDg (zLb G T N zj)) ++ [64])) (zv := zMk G T N zj) _ (by omega) q_p12 (by (try simp only [List.length_append, List.length_cons, List.length_nil]); omega) (by omega)) ?_
        rintro _ zg13 ⟨rfl, q_fb13, q_sb13, q_p13⟩
        have q_fa13 : am_fr [55, 73] zh zg13 := am_fr_t q_fa12 q_fb13
        have q_sa13 : ∀ zs : Nat, zs ≠ 31 → zg13.1 55 zs = zh.1 55 zs := fun zs y => (q_sb13 zs y).trans (q_sa12 zs y)
        refine wp_run (k := 2) (pc1 := 75) (l1 := [(0, .ref 55), (1, .int (iN ((zj : Int))))]) (st1 := [.int (iN (58)), .ref 55]) (kr1 := (78, 76)) (h1 := zg13) rfl ?_
        refine wp_call (md1 := am_m_Model_says) (As := [.ref 55, .int (iN (58))]) (rest := []) (kr1 := (78, 76)) rfl (jm_says (zl := ((((((zTx G T N zj ++ [44]) ++ zDg (zLa G T N zj)) ++ [45]) ++ zDg (zLb G T N zj)) ++ [64]) ++ zDg (zMk G T N zj))) (zc := 58) _ (by omega) q_p13 (by (try simp only [List.length_append, List.length_cons, List.length_nil]); omega)) ?_
        rintro _ zg14 ⟨rfl, q_fb14, q_sb14, q_p14⟩
        have q_fa14 : am_fr [55, 73] zh zg14 := am_fr_t q_fa13 q_fb14
        have q_sa14 : ∀ zs : Nat, zs ≠ 31 → zg14.1 55 zs = zh.1 55 zs := fun zs y => (q_sb14 zs y).trans (q_sa13 zs y)
        refine wp_run (k := 5) (pc1 := 85) (l1 := [(0, .ref 55), (1, .int (iN ((zj : Int))))]) (st1 := [.int (iN ((zj : Int))), .ref 63, .ref 55, .ref 55]) (kr1 := (78, 76)) (h1 := zg14) rfl ?_
        refine wp_iald (f := zg14.1 63) (z := (zj : Int)) (j := zj) (n := 16) (v := iN (zLa G T N zj)) rfl rfl rfl (by omega) (by decide) ((congrFun (q_fa14.2 63 (by decide)) _).trans (q_rw zj (by omega)).1) ?_
        refine wp_run (k := 3) (pc1 := 91) (l1 := [(0, .ref 55), (1, .int (iN ((zj : Int))))]) (st1 := [.int (iN ((zj : Int))), .ref 64, .int (iN (zLa G T N zj)), .ref 55, .ref 55]) (kr1 := (78, 76)) (h1 := zg14) rfl ?_
        refine wp_iald (f := zg14.1 64) (z := (zj : Int)) (j := zj) (n := 16) (v := iN (zLb G T N zj)) rfl rfl rfl (by omega) (by decide) ((congrFun (q_fa14.2 64 (by decide)) _).trans (q_rw zj (by omega)).2.1) ?_
        refine wp_call (md1 := am_m_Model_demand) (As := [.ref 55, .int (iN (zLa G T N zj)), .int (iN (zLb G T N zj))]) (rest := [.ref 55]) (kr1 := (78, 76)) rfl (jm_demand _ (by omega) (zMm_g q_nm (q_sa14 0 (by decide)) (q_fa14.2 56 (by decide))) q_g (za := zLa G T N zj) (zb := zLb G T N zj) (by omega)) ?_
        rintro _ _ ⟨rfl, rfl⟩
        refine wp_call (md1 := am_m_Model_saysNumber) (As := [.ref 55, .int (iN (zD G (zLa G T N zj) (zLb G T N zj)))]) (rest := []) (kr1 := (78, 76)) rfl (jl_says4 (zl := (((((((zTx G T N zj ++ [44]) ++ zDg (zLa G T N zj)) ++ [45]) ++ zDg (zLb G T N zj)) ++ [64]) ++ zDg (zMk G T N zj)) ++ [58])) (zv := zD G (zLa G T N zj) (zLb G T N zj)) _ (by omega) q_p14 (by (try simp only [List.length_append, List.length_cons, List.length_nil]); omega) (by omega)) ?_
        rintro _ zg15 ⟨rfl, q_fb15, q_sb15, q_p15⟩
        have q_fa15 : am_fr [55, 73] zh zg15 := am_fr_t q_fa14 q_fb15
        have q_sa15 : ∀ zs : Nat, zs ≠ 31 → zg15.1 55 zs = zh.1 55 zs := fun zs y => (q_sb15 zs y).trans (q_sa14 zs y)
        refine wp_run (k := 2) (pc1 := 12) (l1 := [(0, .ref 55), (1, .int (iN (((zj : Int)) + 1)))]) (st1 := []) (kr1 := (78, 76)) (h1 := zg15) (Eq.trans (b := (some (12, [(0, .ref 55), (1, .int ((iN ((zj : Int))) + iN (1)))], [], (78, 76), zg15) : Option am_C)) rfl (by simp only [Int32.ofInt_add, Int32.ofInt_sub, Int32.ofInt_mul, Int32.ofInt_neg])) ?_
        refine z_ih zg15 (zj + 1) q_fa15 q_sa15 (by omega) ?_ (by omega)
        rw [zTx_s, if_pos (by omega)]
        exact q_p15
set_option maxRecDepth 20000 in
set_option maxHeartbeats 4000000 in
theorem jm_prints (zd : Nat) (q_d : 7 ≤ zd) {zh : am_H} {N : Int} {G : Int → Int → Int} {S T : Int} (q_nm : zMm (zh.1 55) (zh.1 56) N G S T) (q_g : zGk N G S T) : am_wp zd am_m_Model_prints 0 [(0, .ref 55)] [] (78, 76) zh (78, 76) (fun rv h' => rv = none ∧ am_fr [55, 60, 61, 62, 63, 64, 65, 66, 73] zh h' ∧ (∀ zs : Nat, zs ≠ 20 → zs ≠ 31 → h'.1 55 zs = zh.1 55 zs) ∧ ∃ zK : Nat, zIsN G T N zK ∧ zPr 73 55 31 h' (zTx G T N zK)) := by
  obtain ⟨zd, rfl⟩ : ∃ y_e, zd = y_e + 7 := ⟨zd - 7, by omega⟩
  have q_N := q_g.1
  refine wp_run (k := 1) (pc1 := 1) (l1 := [(0, .ref 55)]) (st1 := [.ref 55]) (kr1 := (78, 76)) (h1 := zh) rfl ?_
  refine wp_call (md1 := am_m_Model_thePlan) (As := [.ref 55]) (rest := []) (kr1 := (78, 76)) rfl (jm_thePlan _ (by omega) q_nm q_g) ?_
  rintro _ zg1 ⟨rfl, q_f1, q_s1, zK, q_n, q_cn, q_rw, q_md⟩
  have y_K := zIsN_le q_g q_n
  have q_nm1 := zMm_g q_nm (q_s1 0 (by decide)) (q_f1.2 56 (by decide))
  refine wp_run (k := 6) (pc1 := 12) (l1 := [(0, .ref 55), (1, .int (iN (0)))]) (st1 := []) (kr1 := (78, 76)) (h1 := am_wr zg1 55 31 (iN (0))) rfl ?_
  refine jl_mprints (zh := am_wr zg1 55 31 (iN (0))) _ (by omega) (zMm_g q_nm1 (am_wr_no (by decide)) (am_wr_ne (by decide))) q_g q_n (by rw [am_wr_no (by decide)]; exact q_cn) (by rw [am_wr_ne (show 63 ≠ 55 by decide), am_wr_ne (show 64 ≠ 55 by decide), am_wr_ne (show 65 ≠ 55 by decide)]; exact q_rw) ?_ 20 (am_wr zg1 55 31 (iN (0))) 0 (am_fr_0 _ _) (fun _ _ => rfl) (by omega) ⟨by rw [am_wr_at]; rfl, fun i y => absurd y (Nat.not_lt_zero _)⟩ (by omega)
  intro zg2 q_f2 q_s2 q_p2
  exact ⟨rfl, am_fr_t (am_fr_m q_f1 (fun c y => by simp only [List.mem_cons, List.not_mem_nil, or_false] at y ⊢; omega)) (am_fr_t (am_fr_w (am_fr_0 _ _) (by decide) 31 (iN 0)) (am_fr_m q_f2 (fun c y => by simp only [List.mem_cons, List.not_mem_nil, or_false] at y ⊢; omega))), fun zs y1 y2 => (q_s2 zs y2).trans ((am_wr_no y2).trans (q_s1 zs y1)), zK, q_n, q_p2⟩
