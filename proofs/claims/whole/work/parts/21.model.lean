/-! THE REFERENCE: its leaves -/
theorem lg_lt0 (x y : Int64) : decide (lg_cmp x y < 0) = decide (x.toInt < y.toInt) := by
  unfold lg_cmp
  rcases lg_tri x y with q | q | q
  · rw [if_neg (lg_lt_not q), if_neg (lg_lt_ne q), decide_eq_true (Int64.lt_iff_toInt_lt.mp q)]; rfl
  · subst q
    rw [if_neg (fun y => absurd y (lg_lt_not y)), if_pos rfl, decide_eq_false (Int.lt_irrefl _)]; rfl
  · rw [if_pos q, decide_eq_false (show ¬ x.toInt < y.toInt from fun z => by have q1 := Int64.lt_iff_toInt_lt.mp q; omega)]; rfl
theorem lg_gt0 (x y : Int64) : decide (0 < lg_cmp x y) = decide (y.toInt < x.toInt) := by
  unfold lg_cmp
  rcases lg_tri x y with q | q | q
  · rw [if_neg (lg_lt_not q), if_neg (lg_lt_ne q), decide_eq_false (show ¬ y.toInt < x.toInt from fun z => by have q1 := Int64.lt_iff_toInt_lt.mp q; omega)]; rfl
  · subst q
    rw [if_neg (fun y => absurd y (lg_lt_not y)), if_pos rfl, decide_eq_false (Int.lt_irrefl _)]; rfl
  · rw [if_pos q, decide_eq_true (Int64.lt_iff_toInt_lt.mp q)]; rfl
theorem i2l_i {z : Int} (q : -2147483648 ≤ z ∧ z < 2147483648) : ((iN z).toInt64).toInt = z := by
  rw [Int32.toInt_toInt64, iN_toInt q]
section LG
variable {d : Nat} {md : am_MD} {pc tg : Nat} {l : am_LV} {st rest : List Value} {kr kr' : Nat × Nat} {h : am_H} {Q : Option Value → am_H → Prop} {x y : Int64} {a b : Int}
theorem wp_clt (hx : x.toInt = a) (hy : y.toInt = b) (e : am_bra md pc st = some (decide (lg_cmp x y < 0), tg, rest)) (kt : a < b → am_wp d md tg l rest kr h kr' Q) (kf : ¬ a < b → am_wp d md (pc + 3) l rest kr h kr' Q) : am_wp d md pc l st kr h kr' Q :=
  wp_bra e (fun z => kt (by rw [lg_lt0, hx, hy] at z; exact of_decide_eq_true z)) (fun z => kf (by rw [lg_lt0, hx, hy] at z; exact of_decide_eq_false z))
theorem wp_cge (hx : x.toInt = a) (hy : y.toInt = b) (e : am_bra md pc st = some (!decide (lg_cmp x y < 0), tg, rest)) (kt : ¬ a < b → am_wp d md tg l rest kr h kr' Q) (kf : a < b → am_wp d md (pc + 3) l rest kr h kr' Q) : am_wp d md pc l st kr h kr' Q :=
  wp_bra e (fun z => kt (by rw [lg_lt0, hx, hy] at z; exact of_decide_eq_false (by simpa using z))) (fun z => kf (by rw [lg_lt0, hx, hy] at z; exact of_decide_eq_true (by simpa using z)))
theorem wp_cgt (hx : x.toInt = a) (hy : y.toInt = b) (e : am_bra md pc st = some (decide (0 < lg_cmp x y), tg, rest)) (kt : b < a → am_wp d md tg l rest kr h kr' Q) (kf : ¬ b < a → am_wp d md (pc + 3) l rest kr h kr' Q) : am_wp d md pc l st kr h kr' Q :=
  wp_bra e (fun z => kt (by rw [lg_gt0, hx, hy] at z; exact of_decide_eq_true z)) (fun z => kf (by rw [lg_gt0, hx, hy] at z; exact of_decide_eq_false z))
end LG
def zMm (fo fc : Nat → Int32) (N : Int) (G : Int → Int → Int) (S T : Int) : Prop := fo 0 = iN N ∧ (∀ w p : Int, 0 ≤ w → w < 6 → 0 ≤ p → p < N → fc (16 * w + p).toNat = iN (G w p)) ∧ fc 96 = iN S ∧ fc 97 = iN T
/-- what it costs to hold what a .. b demand, made in a -/
def zHs (G : Int → Int → Int) (a b : Int) : Nat → Int
  | 0 => 0
  | k + 1 => zHs G a b k + G 3 (a + k) * zD G (a + k + 1) b
def zHe (G : Int → Int → Int) (a b : Int) : Int := zHs G a b (b - a).toNat
/-- what it costs that what a .. m - 1 demand is owed up to m -/
def zOs (G : Int → Int → Int) (a : Int) : Nat → Int
  | 0 => 0
  | k + 1 => zOs G a k + G 4 (a + k) * zD G a (a + k)
def zOw (G : Int → Int → Int) (a m : Int) : Int := zOs G a (m - a).toNat
theorem zHs_s (G : Int → Int → Int) (a b p : Int) (q : a ≤ p) : zHs G a b (p + 1 - a).toNat = zHs G a b (p - a).toNat + G 3 p * zD G (p + 1) b := by
  rw [show (p + 1 - a).toNat = (p - a).toNat + 1 by omega]
  show zHs G a b (p - a).toNat + G 3 (a + ((p - a).toNat : Int)) * zD G (a + ((p - a).toNat : Int) + 1) b = _
  rw [show a + ((p - a).toNat : Int) = p by omega]
theorem zOw_s (G : Int → Int → Int) (a m : Int) (q : a ≤ m) : zOw G a (m + 1) = zOw G a m + G 4 m * zD G a m := by
  unfold zOw
  rw [show (m + 1 - a).toNat = (m - a).toNat + 1 by omega]
  show zOs G a (m - a).toNat + G 4 (a + ((m - a).toNat : Int)) * zD G a (a + ((m - a).toNat : Int)) = _
  rw [show a + ((m - a).toNat : Int) = m by omega]
theorem zOw_0 (G : Int → Int → Int) (a : Int) : zOw G a a = 0 := by
  unfold zOw
  rw [show (a - a).toNat = 0 by omega]
  rfl
abbrev zIsL (G : Int → Int → Int) (T a b m : Int) : Prop := 0 < zD G a b ∧ (T = 1 ∨ zD G a (m - 1) = 0)
def zCo (G : Int → Int → Int) (a b m : Int) : Int := G 1 m + G 2 m * zD G a b + zHe G m b + zOw G a m
theorem zD_rg {N : Int} {G : Int → Int → Int} {S T : Int} (q_g : zGk N G S T) {a b : Int} (q_0 : 0 ≤ a) (q_1 : a ≤ b + 1) (q_2 : b < N) : 0 ≤ zD G a b ∧ zD G a b ≤ 1584 := zPi_rg q_g q_0 q_1 (by omega)
set_option maxRecDepth 20000 in
set_option maxHeartbeats 4000000 in
theorem jt_isIn (zd : Nat) (q_d : 0 ≤ zd) {zk : Nat × Nat} {zh : am_H} {va vb vc : Int64} {za zb zc : Int} (q_a : va.toInt = za) (q_b : vb.toInt = zb) (q_c : vc.toInt = zc) : am_wp zd am_m_Model_isIn 0 [(0, .long (va)), (2, .long (vb)), (4, .long (vc))] [] zk zh zk (fun rv h' => rv = some (.int (iN (bI (zb ≤ za ∧ za ≤ zc) inferInstance))) ∧ zh = h') := by
  obtain ⟨zd, rfl⟩ : ∃ y_e, zd = y_e + 0 := ⟨zd - 0, by omega⟩
  refine wp_run (k := 3) (pc1 := 3) (l1 := [(0, .long (va)), (2, .long (vb)), (4, .long (vc))]) (st1 := [.int (lg_cmp (va) (vb))]) (kr1 := zk) (h1 := zh) rfl ?_
  refine wp_clt q_a q_b rfl (fun b_3 => ?_) (fun b_3 => ?_)
  · refine wp_run (k := 1) (pc1 := 18) (l1 := [(0, .long (va)), (2, .long (vb)), (4, .long (vc))]) (st1 := [.int (iN (0))]) (kr1 := zk) (h1 := zh) rfl ?_
    refine wp_ret (rv := some (.int (iN (0)))) rfl ?_
    exact ⟨by rw [show bI (zb ≤ za ∧ za ≤ zc) inferInstance = 0 from if_neg (by omega)], rfl⟩
  · refine wp_run (k := 3) (pc1 := 10) (l1 := [(0, .long (va)), (2, .long (vb)), (4, .long (vc))]) (st1 := [.int (lg_cmp (va) (vc))]) (kr1 := zk) (h1 := zh) rfl ?_
    refine wp_cgt q_a q_c rfl (fun b_10 => ?_) (fun b_10 => ?_)
    · refine wp_run (k := 1) (pc1 := 18) (l1 := [(0, .long (va)), (2, .long (vb)), (4, .long (vc))]) (st1 := [.int (iN (0))]) (kr1 := zk) (h1 := zh) rfl ?_
      refine wp_ret (rv := some (.int (iN (0)))) rfl ?_
      exact ⟨by rw [show bI (zb ≤ za ∧ za ≤ zc) inferInstance = 0 from if_neg (by omega)], rfl⟩
    · refine wp_run (k := 2) (pc1 := 18) (l1 := [(0, .long (va)), (2, .long (vb)), (4, .long (vc))]) (st1 := [.int (iN (1))]) (kr1 := zk) (h1 := zh) rfl ?_
      refine wp_ret (rv := some (.int (iN (1)))) rfl ?_
      exact ⟨by rw [show bI (zb ≤ za ∧ za ≤ zc) inferInstance = 1 from if_pos (by omega)], rfl⟩
set_option maxRecDepth 20000 in
set_option maxHeartbeats 4000000 in
theorem jm_num (zd : Nat) (q_d : 0 ≤ zd) {zh : am_H} {N : Int} {G : Int → Int → Int} {S T : Int} {zw zp : Int} (q_nm : zMm (zh.1 55) (zh.1 56) N G S T) (q_g : zGk N G S T) (q_w : 0 ≤ zw ∧ zw < 6) (q_p : 0 ≤ zp ∧ zp < N) : am_wp zd am_m_Model_num 0 [(0, .ref 55), (1, .int (iN (zw))), (2, .int (iN (zp)))] [] (78, 76) zh (78, 76) (fun rv h' => rv = some (.int (iN (G zw zp))) ∧ zh = h') := by
  obtain ⟨zd, rfl⟩ : ∃ y_e, zd = y_e + 0 := ⟨zd - 0, by omega⟩
  have q_N := q_g.1
  refine wp_run (k := 7) (pc1 := 10) (l1 := [(0, .ref 55), (1, .int (iN (zw))), (2, .int (iN (zp)))]) (st1 := [.int (iN (((16) * (zw)) + (zp))), .ref 56]) (kr1 := (78, 76)) (h1 := zh) (Eq.trans (b := (some (10, [(0, .ref 55), (1, .int (iN (zw))), (2, .int (iN (zp)))], [.int (((iN (16)) * (iN (zw))) + (iN (zp))), .ref 56], (78, 76), zh) : Option am_C)) rfl (by simp only [Int32.ofInt_add, Int32.ofInt_sub, Int32.ofInt_mul, Int32.ofInt_neg])) ?_
  refine wp_iald (f := zh.1 56) (z := ((16) * (zw)) + (zp)) (j := (16 * zw + zp).toNat) (n := 98) (v := iN (G zw zp)) rfl rfl (by omega) (by omega) (by decide) (q_nm.2.1 zw zp (by omega) (by omega) (by omega) (by omega)) ?_
  refine wp_ret (rv := some (.int (iN (G zw zp)))) rfl ?_
  exact ⟨rfl, rfl⟩
set_option maxRecDepth 20000 in
set_option maxHeartbeats 4000000 in
theorem jm_isPeriod (zd : Nat) (q_d : 1 ≤ zd) {zh : am_H} {N : Int} {G : Int → Int → Int} {S T : Int} {zp : Int} (q_nm : zMm (zh.1 55) (zh.1 56) N G S T) (q_g : zGk N G S T) (q_p : -2147483648 ≤ zp ∧ zp < 2147483648) : am_wp zd am_m_Model_isPeriod 0 [(0, .ref 55), (1, .int (iN (zp)))] [] (78, 76) zh (78, 76) (fun rv h' => rv = some (.int (iN (bI (0 ≤ zp ∧ zp ≤ N - 1) inferInstance))) ∧ zh = h') := by
  obtain ⟨zd, rfl⟩ : ∃ y_e, zd = y_e + 1 := ⟨zd - 1, by omega⟩
  have q_N := q_g.1
  refine wp_run (k := 8) (pc1 := 10) (l1 := [(0, .ref 55), (1, .int (iN (zp)))]) (st1 := [.long ((iN ((N) - (1))).toInt64), .long (Int64.ofNat 0), .long ((iN (zp)).toInt64)]) (kr1 := (78, 76)) (h1 := zh) (Eq.trans (b := (some (10, [(0, .ref 55), (1, .int (iN (zp)))], [.long (((zh.1 55 0) - (iN (1))).toInt64), .long (Int64.ofNat 0), .long ((iN (zp)).toInt64)], (78, 76), zh) : Option am_C)) rfl (by simp only [q_nm.1, Int32.ofInt_add, Int32.ofInt_sub, Int32.ofInt_mul, Int32.ofInt_neg])) ?_
  refine wp_call (md1 := am_m_Model_isIn) (As := [.long ((iN (zp)).toInt64), .long (Int64.ofNat 0), .long ((iN ((N) - (1))).toInt64)]) (rest := []) (kr1 := (78, 76)) rfl (jt_isIn _ (by omega) (i2l_i (z := zp) (by omega)) (show (Int64.ofNat 0 : Int64).toInt = 0 by decide) (i2l_i (z := (N) - (1)) (by omega))) ?_
  rintro _ _ ⟨rfl, rfl⟩
  refine wp_retb rfl rfl ?_
  exact ⟨rfl, rfl⟩
set_option maxRecDepth 20000 in
set_option maxHeartbeats 4000000 in
theorem jm_isWhich (zd : Nat) (q_d : 1 ≤ zd) {zk : Nat × Nat} {zh : am_H} {zw : Int} (q_w : -2147483648 ≤ zw ∧ zw < 2147483648) : am_wp zd am_m_Model_isWhich 0 [(0, .int (iN (zw)))] [] zk zh zk (fun rv h' => rv = some (.int (iN (bI (0 ≤ zw ∧ zw ≤ 5) inferInstance))) ∧ zh = h') := by
  obtain ⟨zd, rfl⟩ : ∃ y_e, zd = y_e + 1 := ⟨zd - 1, by omega⟩
  refine wp_run (k := 4) (pc1 := 6) (l1 := [(0, .int (iN (zw)))]) (st1 := [.long ((5 : Int64)), .long (Int64.ofNat 0), .long ((iN (zw)).toInt64)]) (kr1 := zk) (h1 := zh) rfl ?_
  refine wp_call (md1 := am_m_Model_isIn) (As := [.long ((iN (zw)).toInt64), .long (Int64.ofNat 0), .long ((5 : Int64))]) (rest := []) (kr1 := zk) rfl (jt_isIn _ (by omega) (i2l_i (z := zw) (by omega)) (show (Int64.ofNat 0 : Int64).toInt = 0 by decide) (show ((5 : Int64) : Int64).toInt = 5 by decide)) ?_
  rintro _ _ ⟨rfl, rfl⟩
  refine wp_retb rfl rfl ?_
  exact ⟨rfl, rfl⟩
set_option maxRecDepth 20000 in
set_option maxHeartbeats 4000000 in
theorem jm_mayBe (zd : Nat) (q_d : 1 ≤ zd) {zk : Nat × Nat} {zh : am_H} {zw zv : Int} (q_w : -2147483648 ≤ zw ∧ zw < 2147483648) (q_v : -2147483648 ≤ zv ∧ zv < 2147483648) : am_wp zd am_m_Model_mayBe 0 [(0, .int (iN (zw))), (1, .int (iN (zv)))] [] zk zh zk (fun rv h' => rv = some (.int (iN (bI (0 ≤ zv ∧ zv ≤ vmax zw) inferInstance))) ∧ zh = h') := by
  obtain ⟨zd, rfl⟩ : ∃ y_e, zd = y_e + 1 := ⟨zd - 1, by omega⟩
  refine wp_run (k := 5) (pc1 := 5) (l1 := [(0, .int (iN (zw))), (1, .int (iN (zv)))]) (st1 := [.int (iN (1)), .int (iN (zw)), .long (Int64.ofNat 0), .long ((iN (zv)).toInt64)]) (kr1 := zk) (h1 := zh) rfl ?_
  refine wp_eq (a := zw) (b := 1) rfl (by omega) (by omega) (fun b_5 => ?_) (fun b_5 => ?_)
  · refine wp_run (k := 2) (pc1 := 22) (l1 := [(0, .int (iN (zw))), (1, .int (iN (zv)))]) (st1 := [.long ((999 : Int64)), .long (Int64.ofNat 0), .long ((iN (zv)).toInt64)]) (kr1 := zk) (h1 := zh) rfl ?_
    refine wp_call (md1 := am_m_Model_isIn) (As := [.long ((iN (zv)).toInt64), .long (Int64.ofNat 0), .long ((999 : Int64))]) (rest := []) (kr1 := zk) rfl (jt_isIn _ (by omega) (i2l_i (z := zv) (by omega)) (show (Int64.ofNat 0 : Int64).toInt = 0 by decide) (show ((999 : Int64) : Int64).toInt = 999 by decide)) ?_
    rintro _ _ ⟨rfl, rfl⟩
    refine wp_retb rfl rfl ?_
    exact ⟨by rw [show vmax zw = 999 from if_pos (by omega)], rfl⟩
  · refine wp_run (k := 2) (pc1 := 10) (l1 := [(0, .int (iN (zw))), (1, .int (iN (zv)))]) (st1 := [.int (iN (5)), .int (iN (zw)), .long (Int64.ofNat 0), .long ((iN (zv)).toInt64)]) (kr1 := zk) (h1 := zh) rfl ?_
    refine wp_ne (a := zw) (b := 5) rfl (by omega) (by omega) (fun b_10 => ?_) (fun b_10 => ?_)
    · refine wp_run (k := 1) (pc1 := 22) (l1 := [(0, .int (iN (zw))), (1, .int (iN (zv)))]) (st1 := [.long ((99 : Int64)), .long (Int64.ofNat 0), .long ((iN (zv)).toInt64)]) (kr1 := zk) (h1 := zh) rfl ?_
      refine wp_call (md1 := am_m_Model_isIn) (As := [.long ((iN (zv)).toInt64), .long (Int64.ofNat 0), .long ((99 : Int64))]) (rest := []) (kr1 := zk) rfl (jt_isIn _ (by omega) (i2l_i (z := zv) (by omega)) (show (Int64.ofNat 0 : Int64).toInt = 0 by decide) (show ((99 : Int64) : Int64).toInt = 99 by decide)) ?_
      rintro _ _ ⟨rfl, rfl⟩
      refine wp_retb rfl rfl ?_
      exact ⟨by rw [show vmax zw = 99 from if_neg (by omega)], rfl⟩
    · refine wp_run (k := 2) (pc1 := 22) (l1 := [(0, .int (iN (zw))), (1, .int (iN (zv)))]) (st1 := [.long ((999 : Int64)), .long (Int64.ofNat 0), .long ((iN (zv)).toInt64)]) (kr1 := zk) (h1 := zh) rfl ?_
      refine wp_call (md1 := am_m_Model_isIn) (As := [.long ((iN (zv)).toInt64), .long (Int64.ofNat 0), .long ((999 : Int64))]) (rest := []) (kr1 := zk) rfl (jt_isIn _ (by omega) (i2l_i (z := zv) (by omega)) (show (Int64.ofNat 0 : Int64).toInt = 0 by decide) (show ((999 : Int64) : Int64).toInt = 999 by decide)) ?_
      rintro _ _ ⟨rfl, rfl⟩
      refine wp_retb rfl rfl ?_
      exact ⟨by rw [show vmax zw = 999 from if_pos (by omega)], rfl⟩
set_option maxRecDepth 20000 in
set_option maxHeartbeats 4000000 in
theorem jm_isLate (zd : Nat) (q_d : 0 ≤ zd) {zh : am_H} {N : Int} {G : Int → Int → Int} {S T : Int} (q_nm : zMm (zh.1 55) (zh.1 56) N G S T) (q_g : zGk N G S T) : am_wp zd am_m_Model_isLate 0 [(0, .ref 55)] [] (78, 76) zh (78, 76) (fun rv h' => rv = some (.int (iN (bI (T = 1) inferInstance))) ∧ zh = h') := by
  obtain ⟨zd, rfl⟩ : ∃ y_e, zd = y_e + 0 := ⟨zd - 0, by omega⟩
  have q_T := q_g.2.2.2
  refine wp_run (k := 3) (pc1 := 6) (l1 := [(0, .ref 55)]) (st1 := [.int (iN (97)), .ref 56]) (kr1 := (78, 76)) (h1 := zh) rfl ?_
  refine wp_iald (f := zh.1 56) (z := 97) (j := 97) (n := 98) (v := iN T) rfl rfl (by omega) (by omega) (by decide) (q_nm.2.2.2) ?_
  refine wp_run (k := 1) (pc1 := 8) (l1 := [(0, .ref 55)]) (st1 := [.int (iN (1)), .int (iN (T))]) (kr1 := (78, 76)) (h1 := zh) (Eq.trans (b := (some (8, [(0, .ref 55)], [.int (iN (1)), .int (iN T)], (78, 76), zh) : Option am_C)) rfl (by simp only [Int32.ofInt_add, Int32.ofInt_sub, Int32.ofInt_mul, Int32.ofInt_neg])) ?_
  refine wp_ne (a := T) (b := 1) rfl (by omega) (by omega) (fun b_8 => ?_) (fun b_8 => ?_)
  · refine wp_run (k := 1) (pc1 := 16) (l1 := [(0, .ref 55)]) (st1 := [.int (iN (0))]) (kr1 := (78, 76)) (h1 := zh) rfl ?_
    refine wp_ret (rv := some (.int (iN (0)))) rfl ?_
    exact ⟨by rw [show bI (T = 1) inferInstance = 0 from if_neg (by omega)], rfl⟩
  · refine wp_run (k := 2) (pc1 := 16) (l1 := [(0, .ref 55)]) (st1 := [.int (iN (1))]) (kr1 := (78, 76)) (h1 := zh) rfl ?_
    refine wp_ret (rv := some (.int (iN (1)))) rfl ?_
    exact ⟨by rw [show bI (T = 1) inferInstance = 1 from if_pos (by omega)], rfl⟩
set_option maxRecDepth 20000 in
set_option maxHeartbeats 4000000 in
theorem jl_demand (zd : Nat) (q_d : 1 ≤ zd) {zh : am_H} {N : Int} {G : Int → Int → Int} {S T : Int} {za zb : Int} (q_nm : zMm (zh.1 55) (zh.1 56) N G S T) (q_g : zGk N G S T) (q_0 : 0 ≤ za ∧ za ≤ zb + 1 ∧ zb < N) {zQ : Option Value → am_H → Prop} (zk : ∀ zv : Int, zv = zD G za zb → zQ (some (.int (iN zv))) zh) : ∀ (z_n : Nat) (zp : Int) (zs : Int) (q_p : za ≤ zp ∧ zp ≤ (zb + 1)) (q_z : zs = zPi G zp - zPi G za), (zb + 1) - zp < (z_n : Int) → am_wp zd am_m_Model_demand 5 [(0, .ref 55), (1, .int (iN (za))), (2, .int (iN (zb))), (3, .int (iN (zs))), (4, .int (iN (zp)))] [] (78, 76) zh (78, 76) zQ := by
  obtain ⟨zd, rfl⟩ : ∃ y_e, zd = y_e + 1 := ⟨zd - 1, by omega⟩
  intro z_n
  induction z_n with
  | zero => intro zp zs q_p q_z q_m; omega
  | succ z_n z_ih =>
    intro zp zs q_p q_z q_m
    have q_N := q_g.1
    refine wp_run (k := 2) (pc1 := 8) (l1 := [(0, .ref 55), (1, .int (iN (za))), (2, .int (iN (zb))), (3, .int (iN (zs))), (4, .int (iN (zp)))]) (st1 := [.int (iN (zb)), .int (iN (zp))]) (kr1 := (78, 76)) (h1 := zh) rfl ?_
    refine wp_gt (a := zp) (b := zb) rfl (by omega) (by omega) (fun b_8 => ?_) (fun b_8 => ?_)
    · refine wp_run (k := 1) (pc1 := 28) (l1 := [(0, .ref 55), (1, .int (iN (za))), (2, .int (iN (zb))), (3, .int (iN (zs))), (4, .int (iN (zp)))]) (st1 := [.int (iN (zs))]) (kr1 := (78, 76)) (h1 := zh) rfl ?_
      refine wp_ret (rv := some (.int (iN (zs)))) rfl ?_
      refine zk _ ?_
      rw [q_z, show zp = (zb + 1) by omega]; try rfl
    · refine wp_run (k := 4) (pc1 := 16) (l1 := [(0, .ref 55), (1, .int (iN (za))), (2, .int (iN (zb))), (3, .int (iN (zs))), (4, .int (iN (zp)))]) (st1 := [.int (iN (zp)), .int (iN (0)), .ref 55, .int (iN (zs))]) (kr1 := (78, 76)) (h1 := zh) rfl ?_
      refine wp_call (md1 := am_m_Model_num) (As := [.ref 55, .int (iN (0)), .int (iN (zp))]) (rest := [.int (iN (zs))]) (kr1 := (78, 76)) rfl (jm_num _ (by omega) q_nm q_g (zw := 0) (zp := zp) (by omega) (by omega)) ?_
      rintro _ _ ⟨rfl, rfl⟩
      refine wp_run (k := 4) (pc1 := 5) (l1 := [(0, .ref 55), (1, .int (iN (za))), (2, .int (iN (zb))), (3, .int (iN ((zs) + (G (0) (zp))))), (4, .int (iN ((zp) + 1)))]) (st1 := []) (kr1 := (78, 76)) (h1 := zh) (Eq.trans (b := (some (5, [(0, .ref 55), (1, .int (iN (za))), (2, .int (iN (zb))), (3, .int ((iN (zs)) + (iN (G (0) (zp))))), (4, .int ((iN (zp)) + iN (1)))], [], (78, 76), zh) : Option am_C)) rfl (by simp only [Int32.ofInt_add, Int32.ofInt_sub, Int32.ofInt_mul, Int32.ofInt_neg])) ?_
      exact z_ih ((zp) + 1) ((zs) + (G (0) (zp))) (by omega) (by rw [q_z, zPi_s G zp (by omega)]; omega) (by omega)
set_option maxRecDepth 20000 in
set_option maxHeartbeats 4000000 in
theorem jm_demand (zd : Nat) (q_d : 1 ≤ zd) {zh : am_H} {N : Int} {G : Int → Int → Int} {S T : Int} {za zb : Int} (q_nm : zMm (zh.1 55) (zh.1 56) N G S T) (q_g : zGk N G S T) (q_0 : 0 ≤ za ∧ za ≤ zb + 1 ∧ zb < N) : am_wp zd am_m_Model_demand 0 [(0, .ref 55), (1, .int (iN (za))), (2, .int (iN (zb)))] [] (78, 76) zh (78, 76) (fun rv h' => rv = some (.int (iN (zD G za zb))) ∧ zh = h') := by
  obtain ⟨zd, rfl⟩ : ∃ y_e, zd = y_e + 1 := ⟨zd - 1, by omega⟩
  have q_N := q_g.1
  refine wp_run (k := 4) (pc1 := 5) (l1 := [(0, .ref 55), (1, .int (iN (za))), (2, .int (iN (zb))), (3, .int (iN (0))), (4, .int (iN (za)))]) (st1 := []) (kr1 := (78, 76)) (h1 := zh) rfl ?_
  exact jl_demand _ (by omega) q_nm q_g q_0 (fun zv q_v => ⟨by rw [q_v], rfl⟩) ((zb + 1) - za + 1).toNat za 0 (by omega) (by omega) (by omega)
set_option maxRecDepth 20000 in
set_option maxHeartbeats 4000000 in
theorem jl_held (zd : Nat) (q_d : 2 ≤ zd) {zh : am_H} {N : Int} {G : Int → Int → Int} {S T : Int} {za zb : Int} (q_nm : zMm (zh.1 55) (zh.1 56) N G S T) (q_g : zGk N G S T) (q_0 : 0 ≤ za ∧ za ≤ zb ∧ zb < N) {zQ : Option Value → am_H → Prop} (zk : ∀ zv : Int, zv = zHe G za zb → zQ (some (.int (iN zv))) zh) : ∀ (z_n : Nat) (zp : Int) (zs : Int) (q_p : za ≤ zp ∧ zp ≤ zb) (q_z : zs = zHs G za zb (zp - za).toNat), zb - zp < (z_n : Int) → am_wp zd am_m_Model_held 5 [(0, .ref 55), (1, .int (iN (za))), (2, .int (iN (zb))), (3, .int (iN (zs))), (4, .int (iN (zp)))] [] (78, 76) zh (78, 76) zQ := by
  obtain ⟨zd, rfl⟩ : ∃ y_e, zd = y_e + 2 := ⟨zd - 2, by omega⟩
  intro z_n
  induction z_n with
  | zero => intro zp zs q_p q_z q_m; omega
  | succ z_n z_ih =>
    intro zp zs q_p q_z q_m
    have q_N := q_g.1
    refine wp_run (k := 2) (pc1 := 8) (l1 := [(0, .ref 55), (1, .int (iN (za))), (2, .int (iN (zb))), (3, .int (iN (zs))), (4, .int (iN (zp)))]) (st1 := [.int (iN (zb)), .int (iN (zp))]) (kr1 := (78, 76)) (h1 := zh) rfl ?_
    refine wp_ge (a := zp) (b := zb) rfl (by omega) (by omega) (fun b_8 => ?_) (fun b_8 => ?_)
    · refine wp_run (k := 1) (pc1 := 38) (l1 := [(0, .ref 55), (1, .int (iN (za))), (2, .int (iN (zb))), (3, .int (iN (zs))), (4, .int (iN (zp)))]) (st1 := [.int (iN (zs))]) (kr1 := (78, 76)) (h1 := zh) rfl ?_
      refine wp_ret (rv := some (.int (iN (zs)))) rfl ?_
      refine zk _ ?_
      rw [q_z, show zp = zb by omega]; try rfl
    · refine wp_run (k := 4) (pc1 := 16) (l1 := [(0, .ref 55), (1, .int (iN (za))), (2, .int (iN (zb))), (3, .int (iN (zs))), (4, .int (iN (zp)))]) (st1 := [.int (iN (zp)), .int (iN (3)), .ref 55, .int (iN (zs))]) (kr1 := (78, 76)) (h1 := zh) rfl ?_
      refine wp_call (md1 := am_m_Model_num) (As := [.ref 55, .int (iN (3)), .int (iN (zp))]) (rest := [.int (iN (zs))]) (kr1 := (78, 76)) rfl (jm_num _ (by omega) q_nm q_g (zw := 3) (zp := zp) (by omega) (by omega)) ?_
      rintro _ _ ⟨rfl, rfl⟩
      refine wp_run (k := 5) (pc1 := 25) (l1 := [(0, .ref 55), (1, .int (iN (za))), (2, .int (iN (zb))), (3, .int (iN (zs))), (4, .int (iN (zp)))]) (st1 := [.int (iN (zb)), .int (iN ((zp) + (1))), .ref 55, .int (iN (G (3) (zp))), .int (iN (zs))]) (kr1 := (78, 76)) (h1 := zh) (Eq.trans (b := (some (25, [(0, .ref 55), (1, .int (iN (za))), (2, .int (iN (zb))), (3, .int (iN (zs))), (4, .int (iN (zp)))], [.int (iN (zb)), .int ((iN (zp)) + (iN (1))), .ref 55, .int (iN (G (3) (zp))), .int (iN (zs))], (78, 76), zh) : Option am_C)) rfl (by simp only [Int32.ofInt_add, Int32.ofInt_sub, Int32.ofInt_mul, Int32.ofInt_neg])) ?_
      refine wp_call (md1 := am_m_Model_demand) (As := [.ref 55, .int (iN ((zp) + (1))), .int (iN (zb))]) (rest := [.int (iN (G (3) (zp))), .int (iN (zs))]) (kr1 := (78, 76)) rfl (jm_demand _ (by omega) q_nm q_g (za := (zp) + (1)) (zb := zb) (by omega)) ?_
      rintro _ _ ⟨rfl, rfl⟩
      refine wp_run (k := 5) (pc1 := 5) (l1 := [(0, .ref 55), (1, .int (iN (za))), (2, .int (iN (zb))), (3, .int (iN ((zs) + ((G (3) (zp)) * (zD G ((zp) + (1)) (zb)))))), (4, .int (iN ((zp) + 1)))]) (st1 := []) (kr1 := (78, 76)) (h1 := zh) (Eq.trans (b := (some (5, [(0, .ref 55), (1, .int (iN (za))), (2, .int (iN (zb))), (3, .int ((iN (zs)) + ((iN (G (3) (zp))) * (iN (zD G ((zp) + (1)) (zb)))))), (4, .int ((iN (zp)) + iN (1)))], [], (78, 76), zh) : Option am_C)) rfl (by simp only [Int32.ofInt_add, Int32.ofInt_sub, Int32.ofInt_mul, Int32.ofInt_neg])) ?_
      exact z_ih ((zp) + 1) ((zs) + ((G (3) (zp)) * (zD G ((zp) + (1)) (zb)))) (by omega) (by rw [q_z, zHs_s G za zb zp (by omega)]) (by omega)
set_option maxRecDepth 20000 in
set_option maxHeartbeats 4000000 in
theorem jm_held (zd : Nat) (q_d : 2 ≤ zd) {zh : am_H} {N : Int} {G : Int → Int → Int} {S T : Int} {za zb : Int} (q_nm : zMm (zh.1 55) (zh.1 56) N G S T) (q_g : zGk N G S T) (q_0 : 0 ≤ za ∧ za ≤ zb ∧ zb < N) : am_wp zd am_m_Model_held 0 [(0, .ref 55), (1, .int (iN (za))), (2, .int (iN (zb)))] [] (78, 76) zh (78, 76) (fun rv h' => rv = some (.int (iN (zHe G za zb))) ∧ zh = h') := by
  obtain ⟨zd, rfl⟩ : ∃ y_e, zd = y_e + 2 := ⟨zd - 2, by omega⟩
  have q_N := q_g.1
  refine wp_run (k := 4) (pc1 := 5) (l1 := [(0, .ref 55), (1, .int (iN (za))), (2, .int (iN (zb))), (3, .int (iN (0))), (4, .int (iN (za)))]) (st1 := []) (kr1 := (78, 76)) (h1 := zh) rfl ?_
  exact jl_held _ (by omega) q_nm q_g q_0 (fun zv q_v => ⟨by rw [q_v], rfl⟩) (zb - za + 1).toNat za 0 (by omega) (by rw [show (za - za).toNat = 0 by omega]; rfl) (by omega)
set_option maxRecDepth 20000 in
set_option maxHeartbeats 4000000 in
theorem jl_owed (zd : Nat) (q_d : 2 ≤ zd) {zh : am_H} {N : Int} {G : Int → Int → Int} {S T : Int} {za zb : Int} (q_nm : zMm (zh.1 55) (zh.1 56) N G S T) (q_g : zGk N G S T) (q_0 : 0 ≤ za ∧ za ≤ zb ∧ zb < N) {zQ : Option Value → am_H → Prop} (zk : ∀ zv : Int, zv = zOw G za zb → zQ (some (.int (iN zv))) zh) : ∀ (z_n : Nat) (zp : Int) (zs : Int) (q_p : za ≤ zp ∧ zp ≤ zb) (q_z : zs = zOw G za zp), zb - zp < (z_n : Int) → am_wp zd am_m_Model_owed 5 [(0, .ref 55), (1, .int (iN (za))), (2, .int (iN (zb))), (3, .int (iN (zs))), (4, .int (iN (zp)))] [] (78, 76) zh (78, 76) zQ := by
  obtain ⟨zd, rfl⟩ : ∃ y_e, zd = y_e + 2 := ⟨zd - 2, by omega⟩
  intro z_n
  induction z_n with
  | zero => intro zp zs q_p q_z q_m; omega
  | succ z_n z_ih =>
    intro zp zs q_p q_z q_m
    have q_N := q_g.1
    refine wp_run (k := 2) (pc1 := 8) (l1 := [(0, .ref 55), (1, .int (iN (za))), (2, .int (iN (zb))), (3, .int (iN (zs))), (4, .int (iN (zp)))]) (st1 := [.int (iN (zb)), .int (iN (zp))]) (kr1 := (78, 76)) (h1 := zh) rfl ?_
    refine wp_ge (a := zp) (b := zb) rfl (by omega) (by omega) (fun b_8 => ?_) (fun b_8 => ?_)
    · refine wp_run (k := 1) (pc1 := 36) (l1 := [(0, .ref 55), (1, .int (iN (za))), (2, .int (iN (zb))), (3, .int (iN (zs))), (4, .int (iN (zp)))]) (st1 := [.int (iN (zs))]) (kr1 := (78, 76)) (h1 := zh) rfl ?_
      refine wp_ret (rv := some (.int (iN (zs)))) rfl ?_
      refine zk _ ?_
      rw [q_z, show zp = zb by omega]; try rfl
    · refine wp_run (k := 4) (pc1 := 16) (l1 := [(0, .ref 55), (1, .int (iN (za))), (2, .int (iN (zb))), (3, .int (iN (zs))), (4, .int (iN (zp)))]) (st1 := [.int (iN (zp)), .int (iN (4)), .ref 55, .int (iN (zs))]) (kr1 := (78, 76)) (h1 := zh) rfl ?_
      refine wp_call (md1 := am_m_Model_num) (As := [.ref 55, .int (iN (4)), .int (iN (zp))]) (rest := [.int (iN (zs))]) (kr1 := (78, 76)) rfl (jm_num _ (by omega) q_nm q_g (zw := 4) (zp := zp) (by omega) (by omega)) ?_
      rintro _ _ ⟨rfl, rfl⟩
      refine wp_run (k := 3) (pc1 := 23) (l1 := [(0, .ref 55), (1, .int (iN (za))), (2, .int (iN (zb))), (3, .int (iN (zs))), (4, .int (iN (zp)))]) (st1 := [.int (iN (zp)), .int (iN (za)), .ref 55, .int (iN (G (4) (zp))), .int (iN (zs))]) (kr1 := (78, 76)) (h1 := zh) rfl ?_
      refine wp_call (md1 := am_m_Model_demand) (As := [.ref 55, .int (iN (za)), .int (iN (zp))]) (rest := [.int (iN (G (4) (zp))), .int (iN (zs))]) (kr1 := (78, 76)) rfl (jm_demand _ (by omega) q_nm q_g (za := za) (zb := zp) (by omega)) ?_
      rintro _ _ ⟨rfl, rfl⟩
      refine wp_run (k := 5) (pc1 := 5) (l1 := [(0, .ref 55), (1, .int (iN (za))), (2, .int (iN (zb))), (3, .int (iN ((zs) + ((G (4) (zp)) * (zD G (za) (zp)))))), (4, .int (iN ((zp) + 1)))]) (st1 := []) (kr1 := (78, 76)) (h1 := zh) (Eq.trans (b := (some (5, [(0, .ref 55), (1, .int (iN (za))), (2, .int (iN (zb))), (3, .int ((iN (zs)) + ((iN (G (4) (zp))) * (iN (zD G (za) (zp)))))), (4, .int ((iN (zp)) + iN (1)))], [], (78, 76), zh) : Option am_C)) rfl (by simp only [Int32.ofInt_add, Int32.ofInt_sub, Int32.ofInt_mul, Int32.ofInt_neg])) ?_
      exact z_ih ((zp) + 1) ((zs) + ((G (4) (zp)) * (zD G (za) (zp)))) (by omega) (by rw [q_z, zOw_s G za zp (by omega)]) (by omega)
set_option maxRecDepth 20000 in
set_option maxHeartbeats 4000000 in
theorem jm_owed (zd : Nat) (q_d : 2 ≤ zd) {zh : am_H} {N : Int} {G : Int → Int → Int} {S T : Int} {za zb : Int} (q_nm : zMm (zh.1 55) (zh.1 56) N G S T) (q_g : zGk N G S T) (q_0 : 0 ≤ za ∧ za ≤ zb ∧ zb < N) : am_wp zd am_m_Model_owed 0 [(0, .ref 55), (1, .int (iN (za))), (2, .int (iN (zb)))] [] (78, 76) zh (78, 76) (fun rv h' => rv = some (.int (iN (zOw G za zb))) ∧ zh = h') := by
  obtain ⟨zd, rfl⟩ : ∃ y_e, zd = y_e + 2 := ⟨zd - 2, by omega⟩
  have q_N := q_g.1
  refine wp_run (k := 4) (pc1 := 5) (l1 := [(0, .ref 55), (1, .int (iN (za))), (2, .int (iN (zb))), (3, .int (iN (0))), (4, .int (iN (za)))]) (st1 := []) (kr1 := (78, 76)) (h1 := zh) rfl ?_
  exact jl_owed _ (by omega) q_nm q_g q_0 (fun zv q_v => ⟨by rw [q_v], rfl⟩) (zb - za + 1).toNat za 0 (by omega) (by rw [zOw_0]) (by omega)
set_option maxRecDepth 20000 in
set_option maxHeartbeats 4000000 in
theorem jm_isLot (zd : Nat) (q_d : 3 ≤ zd) {zh : am_H} {N : Int} {G : Int → Int → Int} {S T : Int} {za zb zm : Int} (q_nm : zMm (zh.1 55) (zh.1 56) N G S T) (q_g : zGk N G S T) (q_0 : 0 ≤ za ∧ za ≤ zm ∧ zm ≤ zb ∧ zb < N) : am_wp zd am_m_Model_isLot 0 [(0, .ref 55), (1, .int (iN (za))), (2, .int (iN (zb))), (3, .int (iN (zm)))] [] (78, 76) zh (78, 76) (fun rv h' => rv = some (.int (iN (bI (zIsL G T za zb zm) inferInstance))) ∧ zh = h') := by
  obtain ⟨zd, rfl⟩ : ∃ y_e, zd = y_e + 3 := ⟨zd - 3, by omega⟩
  have q_N := q_g.1
  have y_1 := zD_rg q_g (a := za) (b := zb) (by omega) (by omega) (by omega)
  have y_2 := zD_rg q_g (a := za) (b := zm - 1) (by omega) (by omega) (by omega)
  refine wp_run (k := 3) (pc1 := 3) (l1 := [(0, .ref 55), (1, .int (iN (za))), (2, .int (iN (zb))), (3, .int (iN (zm)))]) (st1 := [.int (iN (zb)), .int (iN (za)), .ref 55]) (kr1 := (78, 76)) (h1 := zh) rfl ?_
  refine wp_call (md1 := am_m_Model_demand) (As := [.ref 55, .int (iN (za)), .int (iN (zb))]) (rest := []) (kr1 := (78, 76)) rfl (jm_demand _ (by omega) q_nm q_g (za := za) (zb := zb) (by omega)) ?_
  rintro _ _ ⟨rfl, rfl⟩
  refine wp_le0 (a := zD G (za) (zb)) rfl (by omega) (fun b_6 => ?_) (fun b_6 => ?_)
  · refine wp_run (k := 1) (pc1 := 32) (l1 := [(0, .ref 55), (1, .int (iN (za))), (2, .int (iN (zb))), (3, .int (iN (zm)))]) (st1 := [.int (iN (0))]) (kr1 := (78, 76)) (h1 := zh) rfl ?_
    refine wp_ret (rv := some (.int (iN (0)))) rfl ?_
    exact ⟨by rw [show bI (zIsL G T za zb zm) inferInstance = 0 from if_neg (fun q => by have q1 := q.1; have q2 := q.2; omega)], rfl⟩
  · refine wp_run (k := 1) (pc1 := 10) (l1 := [(0, .ref 55), (1, .int (iN (za))), (2, .int (iN (zb))), (3, .int (iN (zm)))]) (st1 := [.ref 55]) (kr1 := (78, 76)) (h1 := zh) rfl ?_
    refine wp_call (md1 := am_m_Model_isLate) (As := [.ref 55]) (rest := []) (kr1 := (78, 76)) rfl (jm_isLate _ (by omega) q_nm q_g) ?_
    rintro _ _ ⟨rfl, rfl⟩
    refine wp_neb rfl (fun b_13 => ?_) (fun b_13 => ?_)
    · refine wp_run (k := 2) (pc1 := 32) (l1 := [(0, .ref 55), (1, .int (iN (za))), (2, .int (iN (zb))), (3, .int (iN (zm)))]) (st1 := [.int (iN (1))]) (kr1 := (78, 76)) (h1 := zh) rfl ?_
      refine wp_ret (rv := some (.int (iN (1)))) rfl ?_
      exact ⟨by rw [show bI (zIsL G T za zb zm) inferInstance = 1 from if_pos ⟨by omega, by omega⟩], rfl⟩
    · refine wp_run (k := 5) (pc1 := 21) (l1 := [(0, .ref 55), (1, .int (iN (za))), (2, .int (iN (zb))), (3, .int (iN (zm)))]) (st1 := [.int (iN ((zm) - (1))), .int (iN (za)), .ref 55]) (kr1 := (78, 76)) (h1 := zh) (Eq.trans (b := (some (21, [(0, .ref 55), (1, .int (iN (za))), (2, .int (iN (zb))), (3, .int (iN (zm)))], [.int ((iN (zm)) - (iN (1))), .int (iN (za)), .ref 55], (78, 76), zh) : Option am_C)) rfl (by simp only [Int32.ofInt_add, Int32.ofInt_sub, Int32.ofInt_mul, Int32.ofInt_neg])) ?_
      refine wp_call (md1 := am_m_Model_demand) (As := [.ref 55, .int (iN (za)), .int (iN ((zm) - (1)))]) (rest := []) (kr1 := (78, 76)) rfl (jm_demand _ (by omega) q_nm q_g (za := za) (zb := (zm) - (1)) (by omega)) ?_
      rintro _ _ ⟨rfl, rfl⟩
      refine wp_ne0 (a := zD G (za) ((zm) - (1))) rfl (by omega) (fun b_24 => ?_) (fun b_24 => ?_)
      · refine wp_run (k := 1) (pc1 := 32) (l1 := [(0, .ref 55), (1, .int (iN (za))), (2, .int (iN (zb))), (3, .int (iN (zm)))]) (st1 := [.int (iN (0))]) (kr1 := (78, 76)) (h1 := zh) rfl ?_
        refine wp_ret (rv := some (.int (iN (0)))) rfl ?_
        exact ⟨by rw [show bI (zIsL G T za zb zm) inferInstance = 0 from if_neg (fun q => by have q1 := q.1; have q2 := q.2; omega)], rfl⟩
      · refine wp_run (k := 2) (pc1 := 32) (l1 := [(0, .ref 55), (1, .int (iN (za))), (2, .int (iN (zb))), (3, .int (iN (zm)))]) (st1 := [.int (iN (1))]) (kr1 := (78, 76)) (h1 := zh) rfl ?_
        refine wp_ret (rv := some (.int (iN (1)))) rfl ?_
        exact ⟨by rw [show bI (zIsL G T za zb zm) inferInstance = 1 from if_pos ⟨by omega, by omega⟩], rfl⟩
set_option maxRecDepth 20000 in
set_option maxHeartbeats 4000000 in
theorem jm_cost (zd : Nat) (q_d : 3 ≤ zd) {zh : am_H} {N : Int} {G : Int → Int → Int} {S T : Int} {za zb zm : Int} (q_nm : zMm (zh.1 55) (zh.1 56) N G S T) (q_g : zGk N G S T) (q_0 : 0 ≤ za ∧ za ≤ zm ∧ zm ≤ zb ∧ zb < N) : am_wp zd am_m_Model_cost 0 [(0, .ref 55), (1, .int (iN (za))), (2, .int (iN (zb))), (3, .int (iN (zm)))] [] (78, 76) zh (78, 76) (fun rv h' => rv = some (.int (iN (zCo G za zb zm))) ∧ zh = h') := by
  obtain ⟨zd, rfl⟩ : ∃ y_e, zd = y_e + 3 := ⟨zd - 3, by omega⟩
  have q_N := q_g.1
  refine wp_run (k := 3) (pc1 := 3) (l1 := [(0, .ref 55), (1, .int (iN (za))), (2, .int (iN (zb))), (3, .int (iN (zm)))]) (st1 := [.int (iN (zm)), .int (iN (1)), .ref 55]) (kr1 := (78, 76)) (h1 := zh) rfl ?_
  refine wp_call (md1 := am_m_Model_num) (As := [.ref 55, .int (iN (1)), .int (iN (zm))]) (rest := []) (kr1 := (78, 76)) rfl (jm_num _ (by omega) q_nm q_g (zw := 1) (zp := zm) (by omega) (by omega)) ?_
  rintro _ _ ⟨rfl, rfl⟩
  refine wp_run (k := 3) (pc1 := 9) (l1 := [(0, .ref 55), (1, .int (iN (za))), (2, .int (iN (zb))), (3, .int (iN (zm)))]) (st1 := [.int (iN (zm)), .int (iN (2)), .ref 55, .int (iN (G (1) (zm)))]) (kr1 := (78, 76)) (h1 := zh) rfl ?_
  refine wp_call (md1 := am_m_Model_num) (As := [.ref 55, .int (iN (2)), .int (iN (zm))]) (rest := [.int (iN (G (1) (zm)))]) (kr1 := (78, 76)) rfl (jm_num _ (by omega) q_nm q_g (zw := 2) (zp := zm) (by omega) (by omega)) ?_
  rintro _ _ ⟨rfl, rfl⟩
  refine wp_run (k := 3) (pc1 := 15) (l1 := [(0, .ref 55), (1, .int (iN (za))), (2, .int (iN (zb))), (3, .int (iN (zm)))]) (st1 := [.int (iN (zb)), .int (iN (za)), .ref 55, .int (iN (G (2) (zm))), .int (iN (G (1) (zm)))]) (kr1 := (78, 76)) (h1 := zh) rfl ?_
  refine wp_call (md1 := am_m_Model_demand) (As := [.ref 55, .int (iN (za)), .int (iN (zb))]) (rest := [.int (iN (G (2) (zm))), .int (iN (G (1) (zm)))]) (kr1 := (78, 76)) rfl (jm_demand _ (by omega) q_nm q_g (za := za) (zb := zb) (by omega)) ?_
  rintro _ _ ⟨rfl, rfl⟩
  refine wp_run (k := 5) (pc1 := 23) (l1 := [(0, .ref 55), (1, .int (iN (za))), (2, .int (iN (zb))), (3, .int (iN (zm)))]) (st1 := [.int (iN (zb)), .int (iN (zm)), .ref 55, .int (iN ((G (1) (zm)) + ((G (2) (zm)) * (zD G (za) (zb)))))]) (kr1 := (78, 76)) (h1 := zh) (Eq.trans (b := (some (23, [(0, .ref 55), (1, .int (iN (za))), (2, .int (iN (zb))), (3, .int (iN (zm)))], [.int (iN (zb)), .int (iN (zm)), .ref 55, .int ((iN (G (1) (zm))) + ((iN (G (2) (zm))) * (iN (zD G (za) (zb)))))], (78, 76), zh) : Option am_C)) rfl (by simp only [Int32.ofInt_add, Int32.ofInt_sub, Int32.ofInt_mul, Int32.ofInt_neg])) ?_
  refine wp_call (md1 := am_m_Model_held) (As := [.ref 55, .int (iN (zm)), .int (iN (zb))]) (rest := [.int (iN ((G (1) (zm)) + ((G (2) (zm)) * (zD G (za) (zb)))))]) (kr1 := (78, 76)) rfl (jm_held _ (by omega) q_nm q_g (za := zm) (zb := zb) (by omega)) ?_
  rintro _ _ ⟨rfl, rfl⟩
  refine wp_run (k := 4) (pc1 := 30) (l1 := [(0, .ref 55), (1, .int (iN (za))), (2, .int (iN (zb))), (3, .int (iN (zm)))]) (st1 := [.int (iN (zm)), .int (iN (za)), .ref 55, .int (iN (((G (1) (zm)) + ((G (2) (zm)) * (zD G (za) (zb)))) + (zHe G (zm) (zb))))]) (kr1 := (78, 76)) (h1 := zh) (Eq.trans (b := (some (30, [(0, .ref 55), (1, .int (iN (za))), (2, .int (iN (zb))), (3, .int (iN (zm)))], [.int (iN (zm)), .int (iN (za)), .ref 55, .int ((iN ((G (1) (zm)) + ((G (2) (zm)) * (zD G (za) (zb))))) + (iN (zHe G (zm) (zb))))], (78, 76), zh) : Option am_C)) rfl (by simp only [Int32.ofInt_add, Int32.ofInt_sub, Int32.ofInt_mul, Int32.ofInt_neg])) ?_
  refine wp_call (md1 := am_m_Model_owed) (As := [.ref 55, .int (iN (za)), .int (iN (zm))]) (rest := [.int (iN (((G (1) (zm)) + ((G (2) (zm)) * (zD G (za) (zb)))) + (zHe G (zm) (zb))))]) (kr1 := (78, 76)) rfl (jm_owed _ (by omega) q_nm q_g (za := za) (zb := zm) (by omega)) ?_
  rintro _ _ ⟨rfl, rfl⟩
  refine wp_run (k := 1) (pc1 := 34) (l1 := [(0, .ref 55), (1, .int (iN (za))), (2, .int (iN (zb))), (3, .int (iN (zm)))]) (st1 := [.int (iN ((((G (1) (zm)) + ((G (2) (zm)) * (zD G (za) (zb)))) + (zHe G (zm) (zb))) + (zOw G (za) (zm))))]) (kr1 := (78, 76)) (h1 := zh) (Eq.trans (b := (some (34, [(0, .ref 55), (1, .int (iN (za))), (2, .int (iN (zb))), (3, .int (iN (zm)))], [.int ((iN (((G (1) (zm)) + ((G (2) (zm)) * (zD G (za) (zb)))) + (zHe G (zm) (zb)))) + (iN (zOw G (za) (zm))))], (78, 76), zh) : Option am_C)) rfl (by simp only [Int32.ofInt_add, Int32.ofInt_sub, Int32.ofInt_mul, Int32.ofInt_neg])) ?_
  refine wp_ret (rv := some (.int (iN ((((G (1) (zm)) + ((G (2) (zm)) * (zD G (za) (zb)))) + (zHe G (zm) (zb))) + (zOw G (za) (zm)))))) rfl ?_
  exact ⟨rfl, rfl⟩
