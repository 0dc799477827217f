/-! TEXTS THAT ARE WRITTEN -/
theorem wp_divn {d : Nat} {md : am_MD} {pc : Nat} {l : am_LV} {st : List Value} {kr kr' : Nat × Nat} {h : am_H} {Q : Option Value → am_H → Prop} {a b : Int} (e : am_opc md pc = some .idiv) (ra : 0 ≤ a ∧ a < 2147483648) (rb : 0 < b ∧ b < 2147483648) (q : am_wp d md (pc + 1) l (.int (iN (a / b)) :: st) kr h kr' Q) : am_wp d md pc l (.int (iN b) :: .int (iN a) :: st) kr h kr' Q := by
  refine wp_div e (by omega) rb ?_
  rw [Int.tdiv_eq_ediv_of_nonneg ra.1]
  exact q
theorem wp_remn {d : Nat} {md : am_MD} {pc : Nat} {l : am_LV} {st : List Value} {kr kr' : Nat × Nat} {h : am_H} {Q : Option Value → am_H → Prop} {a b : Int} (e : am_opc md pc = some .irem) (ra : 0 ≤ a ∧ a < 2147483648) (rb : 0 < b ∧ b < 2147483648) (q : am_wp d md (pc + 1) l (.int (iN (a % b)) :: st) kr h kr' Q) : am_wp d md pc l (.int (iN b) :: .int (iN a) :: st) kr h kr' Q := by
  refine wp_rem e (by omega) rb ?_
  rw [Int.tdiv_eq_ediv_of_nonneg ra.1, show a - a / b * b = a % b from by rw [Int.emod_def, Int.mul_comm]]
  exact q
theorem am_c16 {c : Int} (q : 0 ≤ c ∧ c < 128) : (iN c).toUInt32.toUInt16.toUInt32.toInt32 = iN c ∧ ((iN c).toUInt32 % 65536).toInt32 = iN c := by
  have y : ∀ n : Nat, n < 128 → (iN (n : Int)).toUInt32.toUInt16.toUInt32.toInt32 = iN (n : Int) ∧ ((iN (n : Int)).toUInt32 % 65536).toInt32 = iN (n : Int) := by decide +kernel
  have y1 := y c.toNat (by omega)
  rwa [show (c.toNat : Int) = c by omega] at y1
/-- the text l lies there: its bytes in cA, its length at the place sL of cO -/
def zPr (cA cO sL : Nat) (zg : am_H) (l : List Int) : Prop := zg.1 cO sL = iN (l.length : Int) ∧ ∀ i : Nat, i < l.length → zg.1 cA i = iN (l.getD i 0)
theorem zPr_add {cA cO sL : Nat} {zh : am_H} {l : List Int} {c : Int} {x : Int} (q_x : x = (l.length : Int) + 1) (q_d : cA ≠ cO) (q : zPr cA cO sL zh l) : zPr cA cO sL (am_wr (am_wr zh cA (l.length : Int).toNat (iN c)) cO sL (iN x)) (l ++ [c]) := by
  refine ⟨?_, fun i y1 => ?_⟩
  · rw [am_wr_at, List.length_append, q_x]; rfl
  · rw [am_wr_ne q_d]
    rw [List.length_append] at y1
    by_cases y2 : i = l.length
    · rw [y2, show (l.length : Int).toNat = l.length by omega, am_wr_at]
      simp
    · have y3 : i < l.length := by
        have : [c].length = 1 := rfl
        omega
      rw [am_wr_no (by omega), q.2 i y3]
      simp [List.getD, List.getElem?_append_left y3]
theorem zPr_f {cA cO sL : Nat} {zh zg : am_H} {l : List Int} (q1 : zg.1 cO sL = zh.1 cO sL) (q2 : zg.1 cA = zh.1 cA) (q : zPr cA cO sL zh l) : zPr cA cO sL zg l := by
  unfold zPr
  rw [q1, q2]
  exact q
/-- the figures of a number -/
def zDg (v : Int) : List Int := if v < 10 then [48 + v] else if v < 100 then [48 + v / 10, 48 + v % 10] else if v < 1000 then [48 + v / 100, 48 + v / 10 % 10, 48 + v % 10] else [48 + v / 1000, 48 + v / 100 % 10, 48 + v / 10 % 10, 48 + v % 10]
theorem zDg_s {v : Int} (q : 10 ≤ v ∧ v < 10000) : zDg v = zDg (v / 10) ++ [48 + v % 10] := by
  by_cases y1 : v < 100
  · unfold zDg
    rw [if_neg (by omega), if_pos y1, if_pos (by omega)]
    rfl
  · by_cases y2 : v < 1000
    · unfold zDg
      rw [if_neg (by omega), if_neg y1, if_pos y2, if_neg (by omega), if_pos (by omega), show v / 10 / 10 = v / 100 by omega]
      rfl
    · unfold zDg
      rw [if_neg (by omega), if_neg y1, if_neg y2, if_neg (by omega), if_neg (by omega), if_pos (by omega), show v / 10 / 100 = v / 1000 by omega, show v / 10 / 10 % 10 = v / 100 % 10 by omega]
      rfl
theorem zDg_l {v : Int} : (zDg v).length ≤ 4 ∧ (v < 100 → (zDg v).length ≤ 2) := by
  unfold zDg
  by_cases y1 : v < 10
  · rw [if_pos y1]; exact ⟨by simp only [List.length_cons, List.length_nil]; omega, fun _ => by simp only [List.length_cons, List.length_nil]; omega⟩
  · rw [if_neg y1]
    by_cases y2 : v < 100
    · rw [if_pos y2]; exact ⟨by simp only [List.length_cons, List.length_nil]; omega, fun _ => by simp only [List.length_cons, List.length_nil]; omega⟩
    · rw [if_neg y2]
      refine ⟨?_, fun y => absurd y y2⟩
      split
      · simp only [List.length_cons, List.length_nil]; omega
      · simp only [List.length_cons, List.length_nil]; omega
set_option maxRecDepth 20000 in
set_option maxHeartbeats 4000000 in
theorem jt_padd (zd : Nat) (q_d : 1 ≤ zd) {zh : am_H} {zl : List Int} {zc : Int} (q_p : zPr 30 29 1 zh zl) (q_n : zl.length < 256) (q_c : 0 ≤ zc ∧ zc < 128) : am_wp zd am_m_Printed_add 0 [(0, .ref 29), (1, .int (iN (zc)))] [] (78, 76) zh (78, 76) (fun rv h' => rv = none ∧ am_fr [29, 30] zh h' ∧ zPr 30 29 1 h' (zl ++ [zc])) := by
  obtain ⟨zd, rfl⟩ : ∃ y_e, zd = y_e + 1 := ⟨zd - 1, by omega⟩
  refine wp_run (k := 4) (pc1 := 8) (l1 := [(0, .ref 29), (1, .int (iN (zc)))]) (st1 := [.ref 30, .int (iN ((zl.length : Int)))]) (kr1 := (78, 76)) (h1 := zh) (Eq.trans (b := (some (8, [(0, .ref 29), (1, .int (iN (zc)))], [.ref 30, .int (zh.1 29 1)], (78, 76), zh) : Option am_C)) rfl (by simp only [q_p.1, Int32.ofInt_add, Int32.ofInt_sub, Int32.ofInt_mul, Int32.ofInt_neg])) ?_
  refine wp_alen (v := 256) rfl rfl ?_
  refine wp_call (md1 := am_m_Lp_inside) (As := [.int (iN ((zl.length : Int))), .int (iN (256))]) (rest := []) (kr1 := (78, 76)) rfl (jt_inside _ (by omega) (zi := (zl.length : Int)) (ze := 256) (by omega) (by omega)) ?_
  rintro _ _ ⟨rfl, rfl⟩
  refine wp_neb rfl (fun b_12 => ?_) (fun b_12 => ?_)
  · refine wp_run (k := 5) (pc1 := 25) (l1 := [(0, .ref 29), (1, .int (iN (zc)))]) (st1 := [.int (iN (zc)), .int (iN ((zl.length : Int))), .ref 30]) (kr1 := (78, 76)) (h1 := zh) (Eq.trans (b := (some (25, [(0, .ref 29), (1, .int (iN (zc)))], [.int (iN (zc)), .int (zh.1 29 1), .ref 30], (78, 76), zh) : Option am_C)) rfl (by simp only [q_p.1, Int32.ofInt_add, Int32.ofInt_sub, Int32.ofInt_mul, Int32.ofInt_neg])) ?_
    refine wp_cast (z := (zl.length : Int)) (j := ((zl.length : Int)).toNat) (n := 256) (y := iN zc) rfl (by decide) (by decide) rfl rfl (by omega) (by omega) (by decide) (am_c16 q_c).1 ?_
    refine wp_run (k := 5) (pc1 := 33) (l1 := [(0, .ref 29), (1, .int (iN (zc)))]) (st1 := [.int (iN (((zl.length : Int)) + (1))), .ref 29]) (kr1 := (78, 76)) (h1 := am_wr zh 30 (((zl.length : Int)).toNat) (iN zc)) (Eq.trans (b := (some (33, [(0, .ref 29), (1, .int (iN (zc)))], [.int (((am_wr zh 30 (((zl.length : Int)).toNat) (iN zc)).1 29 1) + (iN (1))), .ref 29], (78, 76), am_wr zh 30 (((zl.length : Int)).toNat) (iN zc)) : Option am_C)) rfl (by simp only [(show (am_wr zh 30 (((zl.length : Int)).toNat) (iN zc)).1 29 1 = iN (zl.length : Int) from (congrFun (am_wr_ne (by decide)) 1).trans q_p.1)]; try simp only [Int32.ofInt_add, Int32.ofInt_sub, Int32.ofInt_mul, Int32.ofInt_neg])) ?_
    refine wp_run (k := 1) (pc1 := 36) (l1 := [(0, .ref 29), (1, .int (iN (zc)))]) (st1 := []) (kr1 := (78, 76)) (h1 := am_wr (am_wr zh 30 (((zl.length : Int)).toNat) (iN zc)) 29 1 (iN (((zl.length : Int)) + (1)))) rfl ?_
    refine wp_ret (rv := none) rfl ?_
    exact ⟨rfl, am_fr_w (am_fr_w (am_fr_0 _ _) (by decide) _ _) (by decide) _ _, zPr_add rfl (by decide) q_p⟩
  · exact absurd b_12 (by omega)
set_option maxRecDepth 20000 in
set_option maxHeartbeats 4000000 in
theorem jl_pnum1 (zd : Nat) (q_d : 2 ≤ zd) {zh : am_H} {zl : List Int} {zv : Int} (q_p : zPr 30 29 1 zh zl) (q_n : zl.length + 4 ≤ 256) (q_v : 0 ≤ zv ∧ zv < 10) : am_wp zd am_m_Printed_addNumber 0 [(0, .ref 29), (1, .int (iN (zv)))] [] (78, 76) zh (78, 76) (fun rv h' => rv = none ∧ am_fr [29, 30] zh h' ∧ zPr 30 29 1 h' (zl ++ zDg zv)) := by
  obtain ⟨zd, rfl⟩ : ∃ y_e, zd = y_e + 2 := ⟨zd - 2, by omega⟩
  refine wp_run (k := 2) (pc1 := 2) (l1 := [(0, .ref 29), (1, .int (iN (zv))), (2, .int (iN (1)))]) (st1 := []) (kr1 := (78, 76)) (h1 := zh) rfl ?_
  refine wp_run (k := 3) (pc1 := 6) (l1 := [(0, .ref 29), (1, .int (iN (zv))), (2, .int (iN (1)))]) (st1 := [.int (iN (10)), .int (iN (zv)), .int (iN (1))]) (kr1 := (78, 76)) (h1 := zh) rfl ?_
  refine wp_divn (a := zv) (b := 10) rfl (by omega) (by omega) ?_
  refine wp_gt (a := 1) (b := (zv) / (10)) rfl (by omega) (by omega) (fun b_7 => ?_) (fun b_7 => ?_)
  · refine wp_run (k := 2) (pc1 := 26) (l1 := [(0, .ref 29), (1, .int (iN (zv))), (2, .int (iN (1))), (3, .int (iN (1)))]) (st1 := []) (kr1 := (78, 76)) (h1 := zh) rfl ?_
    refine wp_run (k := 1) (pc1 := 27) (l1 := [(0, .ref 29), (1, .int (iN (zv))), (2, .int (iN (1))), (3, .int (iN (1)))]) (st1 := [.int (iN (1))]) (kr1 := (78, 76)) (h1 := zh) rfl ?_
    refine wp_le0 (a := 1) rfl (by omega) (fun b_27 => ?_) (fun b_27 => ?_)
    · exact absurd b_27 (by decide)
    · refine wp_run (k := 4) (pc1 := 35) (l1 := [(0, .ref 29), (1, .int (iN (zv))), (2, .int (iN (1))), (3, .int (iN (1)))]) (st1 := [.int (iN (1)), .int (iN (zv)), .int (iN (48)), .ref 29]) (kr1 := (78, 76)) (h1 := zh) rfl ?_
      refine wp_divn (a := zv) (b := 1) rfl (by omega) (by omega) ?_
      refine wp_run (k := 1) (pc1 := 38) (l1 := [(0, .ref 29), (1, .int (iN (zv))), (2, .int (iN (1))), (3, .int (iN (1)))]) (st1 := [.int (iN (10)), .int (iN ((zv) / (1))), .int (iN (48)), .ref 29]) (kr1 := (78, 76)) (h1 := zh) rfl ?_
      refine wp_remn (a := (zv) / (1)) (b := 10) rfl (by omega) (by omega) ?_
      refine wp_run (k := 1) (pc1 := 40) (l1 := [(0, .ref 29), (1, .int (iN (zv))), (2, .int (iN (1))), (3, .int (iN (1)))]) (st1 := [.int (iN ((48) + (((zv) / (1)) % (10)))), .ref 29]) (kr1 := (78, 76)) (h1 := zh) (Eq.trans (b := (some (40, [(0, .ref 29), (1, .int (iN (zv))), (2, .int (iN (1))), (3, .int (iN (1)))], [.int ((iN (48)) + (iN (((zv) / (1)) % (10)))), .ref 29], (78, 76), zh) : Option am_C)) rfl (by simp only [Int32.ofInt_add, Int32.ofInt_sub, Int32.ofInt_mul, Int32.ofInt_neg])) ?_
      refine wp_run (k := 1) (pc1 := 41) (l1 := [(0, .ref 29), (1, .int (iN (zv))), (2, .int (iN (1))), (3, .int (iN (1)))]) (st1 := [.int (((iN ((48) + (((zv) / (1)) % (10)))).toUInt32 % 65536).toInt32), .ref 29]) (kr1 := (78, 76)) (h1 := zh) rfl ?_
      rw [show ((iN ((48) + (((zv) / (1)) % (10)))).toUInt32 % 65536).toInt32 = iN ((48) + (((zv) / (1)) % (10))) from (am_c16 (by omega)).2]
      refine wp_call (md1 := am_m_Printed_add) (As := [.ref 29, .int (iN ((48) + (((zv) / (1)) % (10))))]) (rest := []) (kr1 := (78, 76)) rfl (jt_padd (zl := zl) (zc := (48) + (((zv) / (1)) % (10))) _ (by omega) q_p (by omega) (by omega)) ?_
      rintro _ zg1 ⟨rfl, q_f1, q_p1⟩
      refine wp_run (k := 2) (pc1 := 47) (l1 := [(0, .ref 29), (1, .int (iN (zv))), (2, .int (iN (1))), (3, .int (iN (1)))]) (st1 := [.int (iN (10)), .int (iN (1))]) (kr1 := (78, 76)) (h1 := zg1) rfl ?_
      refine wp_divn (a := 1) (b := 10) rfl (by omega) (by omega) ?_
      refine wp_run (k := 2) (pc1 := 26) (l1 := [(0, .ref 29), (1, .int (iN (zv))), (2, .int (iN (1))), (3, .int (iN ((1) / (10))))]) (st1 := []) (kr1 := (78, 76)) (h1 := zg1) rfl ?_
      rw [show (1) / (10) = (0 : Int) from by decide]
      refine wp_run (k := 1) (pc1 := 27) (l1 := [(0, .ref 29), (1, .int (iN (zv))), (2, .int (iN (1))), (3, .int (iN (0)))]) (st1 := [.int (iN (0))]) (kr1 := (78, 76)) (h1 := zg1) rfl ?_
      refine wp_le0 (a := 0) rfl (by omega) (fun b_27 => ?_) (fun b_27 => ?_)
      · refine wp_ret (rv := none) rfl ?_
        refine ⟨rfl, q_f1, ?_⟩
        rw [show zl ++ zDg zv = (zl ++ [(48) + (((zv) / (1)) % (10))]) from ?_]
        · exact q_p1
        · unfold zDg
          rw [if_pos (by omega)]
          have y_t : zv / 1 % 10 = zv / 1 := by omega
          have y_1 : zv / 1 = zv := by omega
          try simp only [List.append_assoc, List.cons_append, List.nil_append]
          rw [y_t, y_1]
      · exact absurd b_27 (by decide)
  · exact absurd b_7 (by omega)
set_option maxRecDepth 20000 in
set_option maxHeartbeats 4000000 in
theorem jl_pnum2 (zd : Nat) (q_d : 2 ≤ zd) {zh : am_H} {zl : List Int} {zv : Int} (q_p : zPr 30 29 1 zh zl) (q_n : zl.length + 4 ≤ 256) (q_v : 10 ≤ zv ∧ zv < 100) : am_wp zd am_m_Printed_addNumber 0 [(0, .ref 29), (1, .int (iN (zv)))] [] (78, 76) zh (78, 76) (fun rv h' => rv = none ∧ am_fr [29, 30] zh h' ∧ zPr 30 29 1 h' (zl ++ zDg zv)) := by
  obtain ⟨zd, rfl⟩ : ∃ y_e, zd = y_e + 2 := ⟨zd - 2, by omega⟩
  refine wp_run (k := 2) (pc1 := 2) (l1 := [(0, .ref 29), (1, .int (iN (zv))), (2, .int (iN (1)))]) (st1 := []) (kr1 := (78, 76)) (h1 := zh) rfl ?_
  refine wp_run (k := 3) (pc1 := 6) (l1 := [(0, .ref 29), (1, .int (iN (zv))), (2, .int (iN (1)))]) (st1 := [.int (iN (10)), .int (iN (zv)), .int (iN (1))]) (kr1 := (78, 76)) (h1 := zh) rfl ?_
  refine wp_divn (a := zv) (b := 10) rfl (by omega) (by omega) ?_
  refine wp_gt (a := 1) (b := (zv) / (10)) rfl (by omega) (by omega) (fun b_7 => ?_) (fun b_7 => ?_)
  · exact absurd b_7 (by omega)
  · refine wp_run (k := 2) (pc1 := 13) (l1 := [(0, .ref 29), (1, .int (iN (zv))), (2, .int (iN (1)))]) (st1 := [.int (iN (1000000000)), .int (iN (1))]) (kr1 := (78, 76)) (h1 := zh) rfl ?_
    refine wp_ge (a := 1) (b := 1000000000) rfl (by omega) (by omega) (fun b_13 => ?_) (fun b_13 => ?_)
    · exact absurd b_13 (by decide)
    · refine wp_run (k := 5) (pc1 := 2) (l1 := [(0, .ref 29), (1, .int (iN (zv))), (2, .int (iN ((1) * (10))))]) (st1 := []) (kr1 := (78, 76)) (h1 := zh) (Eq.trans (b := (some (2, [(0, .ref 29), (1, .int (iN (zv))), (2, .int ((iN (1)) * (iN (10))))], [], (78, 76), zh) : Option am_C)) rfl (by simp only [Int32.ofInt_add, Int32.ofInt_sub, Int32.ofInt_mul, Int32.ofInt_neg])) ?_
      rw [show (1) * (10) = (10 : Int) from by decide]
      refine wp_run (k := 3) (pc1 := 6) (l1 := [(0, .ref 29), (1, .int (iN (zv))), (2, .int (iN (10)))]) (st1 := [.int (iN (10)), .int (iN (zv)), .int (iN (10))]) (kr1 := (78, 76)) (h1 := zh) rfl ?_
      refine wp_divn (a := zv) (b := 10) rfl (by omega) (by omega) ?_
      refine wp_gt (a := 10) (b := (zv) / (10)) rfl (by omega) (by omega) (fun b_7 => ?_) (fun b_7 => ?_)
      · refine wp_run (k := 2) (pc1 := 26) (l1 := [(0, .ref 29), (1, .int (iN (zv))), (2, .int (iN (10))), (3, .int (iN (10)))]) (st1 := []) (kr1 := (78, 76)) (h1 := zh) rfl ?_
        refine wp_run (k := 1) (pc1 := 27) (l1 := [(0, .ref 29), (1, .int (iN (zv))), (2, .int (iN (10))), (3, .int (iN (10)))]) (st1 := [.int (iN (10))]) (kr1 := (78, 76)) (h1 := zh) rfl ?_
        refine wp_le0 (a := 10) rfl (by omega) (fun b_27 => ?_) (fun b_27 => ?_)
        · exact absurd b_27 (by decide)
        · refine wp_run (k := 4) (pc1 := 35) (l1 := [(0, .ref 29), (1, .int (iN (zv))), (2, .int (iN (10))), (3, .int (iN (10)))]) (st1 := [.int (iN (10)), .int (iN (zv)), .int (iN (48)), .ref 29]) (kr1 := (78, 76)) (h1 := zh) rfl ?_
          refine wp_divn (a := zv) (b := 10) rfl (by omega) (by omega) ?_
          refine wp_run (k := 1) (pc1 := 38) (l1 := [(0, .ref 29), (1, .int (iN (zv))), (2, .int (iN (10))), (3, .int (iN (10)))]) (st1 := [.int (iN (10)), .int (iN ((zv) / (10))), .int (iN (48)), .ref 29]) (kr1 := (78, 76)) (h1 := zh) rfl ?_
          refine wp_remn (a := (zv) / (10)) (b := 10) rfl (by omega) (by omega) ?_
          refine wp_run (k := 1) (pc1 := 40) (l1 := [(0, .ref 29), (1, .int (iN (zv))), (2, .int (iN (10))), (3, .int (iN (10)))]) (st1 := [.int (iN ((48) + (((zv) / (10)) % (10)))), .ref 29]) (kr1 := (78, 76)) (h1 := zh) (Eq.trans (b := (some (40, [(0, .ref 29), (1, .int (iN (zv))), (2, .int (iN (10))), (3, .int (iN (10)))], [.int ((iN (48)) + (iN (((zv) / (10)) % (10)))), .ref 29], (78, 76), zh) : Option am_C)) rfl (by simp only [Int32.ofInt_add, Int32.ofInt_sub, Int32.ofInt_mul, Int32.ofInt_neg])) ?_
          refine wp_run (k := 1) (pc1 := 41) (l1 := [(0, .ref 29), (1, .int (iN (zv))), (2, .int (iN (10))), (3, .int (iN (10)))]) (st1 := [.int (((iN ((48) + (((zv) / (10)) % (10)))).toUInt32 % 65536).toInt32), .ref 29]) (kr1 := (78, 76)) (h1 := zh) rfl ?_
          rw [show ((iN ((48) + (((zv) / (10)) % (10)))).toUInt32 % 65536).toInt32 = iN ((48) + (((zv) / (10)) % (10))) from (am_c16 (by omega)).2]
          refine wp_call (md1 := am_m_Printed_add) (As := [.ref 29, .int (iN ((48) + (((zv) / (10)) % (10))))]) (rest := []) (kr1 := (78, 76)) rfl (jt_padd (zl := zl) (zc := (48) + (((zv) / (10)) % (10))) _ (by omega) q_p (by omega) (by omega)) ?_
          rintro _ zg1 ⟨rfl, q_f1, q_p1⟩
          refine wp_run (k := 2) (pc1 := 47) (l1 := [(0, .ref 29), (1, .int (iN (zv))), (2, .int (iN (10))), (3, .int (iN (10)))]) (st1 := [.int (iN (10)), .int (iN (10))]) (kr1 := (78, 76)) (h1 := zg1) rfl ?_
          refine wp_divn (a := 10) (b := 10) rfl (by omega) (by omega) ?_
          refine wp_run (k := 2) (pc1 := 26) (l1 := [(0, .ref 29), (1, .int (iN (zv))), (2, .int (iN (10))), (3, .int (iN ((10) / (10))))]) (st1 := []) (kr1 := (78, 76)) (h1 := zg1) rfl ?_
          rw [show (10) / (10) = (1 : Int) from by decide]
          refine wp_run (k := 1) (pc1 := 27) (l1 := [(0, .ref 29), (1, .int (iN (zv))), (2, .int (iN (10))), (3, .int (iN (1)))]) (st1 := [.int (iN (1))]) (kr1 := (78, 76)) (h1 := zg1) rfl ?_
          refine wp_le0 (a := 1) rfl (by omega) (fun b_27 => ?_) (fun b_27 => ?_)
          · exact absurd b_27 (by decide)
          · refine wp_run (k := 4) (pc1 := 35) (l1 := [(0, .ref 29), (1, .int (iN (zv))), (2, .int (iN (10))), (3, .int (iN (1)))]) (st1 := [.int (iN (1)), .int (iN (zv)), .int (iN (48)), .ref 29]) (kr1 := (78, 76)) (h1 := zg1) rfl ?_
            refine wp_divn (a := zv) (b := 1) rfl (by omega) (by omega) ?_
            refine wp_run (k := 1) (pc1 := 38) (l1 := [(0, .ref 29), (1, .int (iN (zv))), (2, .int (iN (10))), (3, .int (iN (1)))]) (st1 := [.int (iN (10)), .int (iN ((zv) / (1))), .int (iN (48)), .ref 29]) (kr1 := (78, 76)) (h1 := zg1) rfl ?_
            refine wp_remn (a := (zv) / (1)) (b := 10) rfl (by omega) (by omega) ?_
            refine wp_run (k := 1) (pc1 := 40) (l1 := [(0, .ref 29), (1, .int (iN (zv))), (2, .int (iN (10))), (3, .int (iN (1)))]) (st1 := [.int (iN ((48) + (((zv) / (1)) % (10)))), .ref 29]) (kr1 := (78, 76)) (h1 := zg1) (Eq.trans (b := (some (40, [(0, .ref 29), (1, .int (iN (zv))), (2, .int (iN (10))), (3, .int (iN (1)))], [.int ((iN (48)) + (iN (((zv) / (1)) % (10)))), .ref 29], (78, 76), zg1) : Option am_C)) rfl (by simp only [Int32.ofInt_add, Int32.ofInt_sub, Int32.ofInt_mul, Int32.ofInt_neg])) ?_
            refine wp_run (k := 1) (pc1 := 41) (l1 := [(0, .ref 29), (1, .int (iN (zv))), (2, .int (iN (10))), (3, .int (iN (1)))]) (st1 := [.int (((iN ((48) + (((zv) / (1)) % (10)))).toUInt32 % 65536).toInt32), .ref 29]) (kr1 := (78, 76)) (h1 := zg1) rfl ?_
            rw [show ((iN ((48) + (((zv) / (1)) % (10)))).toUInt32 % 65536).toInt32 = iN ((48) + (((zv) / (1)) % (10))) from (am_c16 (by omega)).2]
            refine wp_call (md1 := am_m_Printed_add) (As := [.ref 29, .int (iN ((48) + (((zv) / (1)) % (10))))]) (rest := []) (kr1 := (78, 76)) rfl (jt_padd (zl := (zl ++ [(48) + (((zv) / (10)) % (10))])) (zc := (48) + (((zv) / (1)) % (10))) _ (by omega) q_p1 (by simp only [List.length_append, List.length_cons, List.length_nil]; omega) (by omega)) ?_
            rintro _ zg2 ⟨rfl, q_f2, q_p2⟩
            refine wp_run (k := 2) (pc1 := 47) (l1 := [(0, .ref 29), (1, .int (iN (zv))), (2, .int (iN (10))), (3, .int (iN (1)))]) (st1 := [.int (iN (10)), .int (iN (1))]) (kr1 := (78, 76)) (h1 := zg2) rfl ?_
            refine wp_divn (a := 1) (b := 10) rfl (by omega) (by omega) ?_
            refine wp_run (k := 2) (pc1 := 26) (l1 := [(0, .ref 29), (1, .int (iN (zv))), (2, .int (iN (10))), (3, .int (iN ((1) / (10))))]) (st1 := []) (kr1 := (78, 76)) (h1 := zg2) rfl ?_
            rw [show (1) / (10) = (0 : Int) from by decide]
            refine wp_run (k := 1) (pc1 := 27) (l1 := [(0, .ref 29), (1, .int (iN (zv))), (2, .int (iN (10))), (3, .int (iN (0)))]) (st1 := [.int (iN (0))]) (kr1 := (78, 76)) (h1 := zg2) rfl ?_
            refine wp_le0 (a := 0) rfl (by omega) (fun b_27 => ?_) (fun b_27 => ?_)
            · refine wp_ret (rv := none) rfl ?_
              refine ⟨rfl, am_fr_t (q_f1) q_f2, ?_⟩
              rw [show zl ++ zDg zv = ((zl ++ [(48) + (((zv) / (10)) % (10))]) ++ [(48) + (((zv) / (1)) % (10))]) from ?_]
              · exact q_p2
              · unfold zDg
                rw [if_neg (by omega), if_pos (by omega)]
                have y_t : zv / 10 % 10 = zv / 10 := by omega
                have y_1 : zv / 1 = zv := by omega
                try simp only [List.append_assoc, List.cons_append, List.nil_append]
                rw [y_t, y_1]
            · exact absurd b_27 (by decide)
      · exact absurd b_7 (by omega)
set_option maxRecDepth 20000 in
set_option maxHeartbeats 4000000 in
theorem jl_pnum3 (zd : Nat) (q_d : 2 ≤ zd) {zh : am_H} {zl : List Int} {zv : Int} (q_p : zPr 30 29 1 zh zl) (q_n : zl.length + 4 ≤ 256) (q_v : 100 ≤ zv ∧ zv < 1000) : am_wp zd am_m_Printed_addNumber 0 [(0, .ref 29), (1, .int (iN (zv)))] [] (78, 76) zh (78, 76) (fun rv h' => rv = none ∧ am_fr [29, 30] zh h' ∧ zPr 30 29 1 h' (zl ++ zDg zv)) := by
  obtain ⟨zd, rfl⟩ : ∃ y_e, zd = y_e + 2 := ⟨zd - 2, by omega⟩
  refine wp_run (k := 2) (pc1 := 2) (l1 := [(0, .ref 29), (1, .int (iN (zv))), (2, .int (iN (1)))]) (st1 := []) (kr1 := (78, 76)) (h1 := zh) rfl ?_
  refine wp_run (k := 3) (pc1 := 6) (l1 := [(0, .ref 29), (1, .int (iN (zv))), (2, .int (iN (1)))]) (st1 := [.int (iN (10)), .int (iN (zv)), .int (iN (1))]) (kr1 := (78, 76)) (h1 := zh) rfl ?_
  refine wp_divn (a := zv) (b := 10) rfl (by omega) (by omega) ?_
  refine wp_gt (a := 1) (b := (zv) / (10)) rfl (by omega) (by omega) (fun b_7 => ?_) (fun b_7 => ?_)
  · exact absurd b_7 (by omega)
  · refine wp_run (k := 2) (pc1 := 13) (l1 := [(0, .ref 29), (1, .int (iN (zv))), (2, .int (iN (1)))]) (st1 := [.int (iN (1000000000)), .int (iN (1))]) (kr1 := (78, 76)) (h1 := zh) rfl ?_
    refine wp_ge (a := 1) (b := 1000000000) rfl (by omega) (by omega) (fun b_13 => ?_) (fun b_13 => ?_)
    · exact absurd b_13 (by decide)
    · refine wp_run (k := 5) (pc1 := 2) (l1 := [(0, .ref 29), (1, .int (iN (zv))), (2, .int (iN ((1) * (10))))]) (st1 := []) (kr1 := (78, 76)) (h1 := zh) (Eq.trans (b := (some (2, [(0, .ref 29), (1, .int (iN (zv))), (2, .int ((iN (1)) * (iN (10))))], [], (78, 76), zh) : Option am_C)) rfl (by simp only [Int32.ofInt_add, Int32.ofInt_sub, Int32.ofInt_mul, Int32.ofInt_neg])) ?_
      rw [show (1) * (10) = (10 : Int) from by decide]
      refine wp_run (k := 3) (pc1 := 6) (l1 := [(0, .ref 29), (1, .int (iN (zv))), (2, .int (iN (10)))]) (st1 := [.int (iN (10)), .int (iN (zv)), .int (iN (10))]) (kr1 := (78, 76)) (h1 := zh) rfl ?_
      refine wp_divn (a := zv) (b := 10) rfl (by omega) (by omega) ?_
      refine wp_gt (a := 10) (b := (zv) / (10)) rfl (by omega) (by omega) (fun b_7 => ?_) (fun b_7 => ?_)
      · exact absurd b_7 (by omega)
      · refine wp_run (k := 2) (pc1 := 13) (l1 := [(0, .ref 29), (1, .int (iN (zv))), (2, .int (iN (10)))]) (st1 := [.int (iN (1000000000)), .int (iN (10))]) (kr1 := (78, 76)) (h1 := zh) rfl ?_
        refine wp_ge (a := 10) (b := 1000000000) rfl (by omega) (by omega) (fun b_13 => ?_) (fun b_13 => ?_)
        · exact absurd b_13 (by decide)
        · refine wp_run (k := 5) (pc1 := 2) (l1 := [(0, .ref 29), (1, .int (iN (zv))), (2, .int (iN ((10) * (10))))]) (st1 := []) (kr1 := (78, 76)) (h1 := zh) (Eq.trans (b := (some (2, [(0, .ref 29), (1, .int (iN (zv))), (2, .int ((iN (10)) * (iN (10))))], [], (78, 76), zh) : Option am_C)) rfl (by simp only [Int32.ofInt_add, Int32.ofInt_sub, Int32.ofInt_mul, Int32.ofInt_neg])) ?_
          rw [show (10) * (10) = (100 : Int) from by decide]
          refine wp_run (k := 3) (pc1 := 6) (l1 := [(0, .ref 29), (1, .int (iN (zv))), (2, .int (iN (100)))]) (st1 := [.int (iN (10)), .int (iN (zv)), .int (iN (100))]) (kr1 := (78, 76)) (h1 := zh) rfl ?_
          refine wp_divn (a := zv) (b := 10) rfl (by omega) (by omega) ?_
          refine wp_gt (a := 100) (b := (zv) / (10)) rfl (by omega) (by omega) (fun b_7 => ?_) (fun b_7 => ?_)
          · refine wp_run (k := 2) (pc1 := 26) (l1 := [(0, .ref 29), (1, .int (iN (zv))), (2, .int (iN (100))), (3, .int (iN (100)))]) (st1 := []) (kr1 := (78, 76)) (h1 := zh) rfl ?_
            refine wp_run (k := 1) (pc1 := 27) (l1 := [(0, .ref 29), (1, .int (iN (zv))), (2, .int (iN (100))), (3, .int (iN (100)))]) (st1 := [.int (iN (100))]) (kr1 := (78, 76)) (h1 := zh) rfl ?_
            refine wp_le0 (a := 100) rfl (by omega) (fun b_27 => ?_) (fun b_27 => ?_)
            · exact absurd b_27 (by decide)
            · refine wp_run (k := 4) (pc1 := 35) (l1 := [(0, .ref 29), (1, .int (iN (zv))), (2, .int (iN (100))), (3, .int (iN (100)))]) (st1 := [.int (iN (100)), .int (iN (zv)), .int (iN (48)), .ref 29]) (kr1 := (78, 76)) (h1 := zh) rfl ?_
              refine wp_divn (a := zv) (b := 100) rfl (by omega) (by omega) ?_
              refine wp_run (k := 1) (pc1 := 38) (l1 := [(0, .ref 29), (1, .int (iN (zv))), (2, .int (iN (100))), (3, .int (iN (100)))]) (st1 := [.int (iN (10)), .int (iN ((zv) / (100))), .int (iN (48)), .ref 29]) (kr1 := (78, 76)) (h1 := zh) rfl ?_
              refine wp_remn (a := (zv) / (100)) (b := 10) rfl (by omega) (by omega) ?_
              refine wp_run (k := 1) (pc1 := 40) (l1 := [(0, .ref 29), (1, .int (iN (zv))), (2, .int (iN (100))), (3, .int (iN (100)))]) (st1 := [.int (iN ((48) + (((zv) / (100)) % (10)))), .ref 29]) (kr1 := (78, 76)) (h1 := zh) (Eq.trans (b := (some (40, [(0, .ref 29), (1, .int (iN (zv))), (2, .int (iN (100))), (3, .int (iN (100)))], [.int ((iN (48)) + (iN (((zv) / (100)) % (10)))), .ref 29], (78, 76), zh) : Option am_C)) rfl (by simp only [Int32.ofInt_add, Int32.ofInt_sub, Int32.ofInt_mul, Int32.ofInt_neg])) ?_
              refine wp_run (k := 1) (pc1 := 41) (l1 := [(0, .ref 29), (1, .int (iN (zv))), (2, .int (iN (100))), (3, .int (iN (100)))]) (st1 := [.int (((iN ((48) + (((zv) / (100)) % (10)))).toUInt32 % 65536).toInt32), .ref 29]) (kr1 := (78, 76)) (h1 := zh) rfl ?_
              rw [show ((iN ((48) + (((zv) / (100)) % (10)))).toUInt32 % 65536).toInt32 = iN ((48) + (((zv) / (100)) % (10))) from (am_c16 (by omega)).2]
              refine wp_call (md1 := am_m_Printed_add) (As := [.ref 29, .int (iN ((48) + (((zv) / (100)) % (10))))]) (rest := []) (kr1 := (78, 76)) rfl (jt_padd (zl := zl) (zc := (48) + (((zv) / (100)) % (10))) _ (by omega) q_p (by omega) (by omega)) ?_
              rintro _ zg1 ⟨rfl, q_f1, q_p1⟩
              refine wp_run (k := 2) (pc1 := 47) (l1 := [(0, .ref 29), (1, .int (iN (zv))), (2, .int (iN (100))), (3, .int (iN (100)))]) (st1 := [.int (iN (10)), .int (iN (100))]) (kr1 := (78, 76)) (h1 := zg1) rfl ?_
              refine wp_divn (a := 100) (b := 10) rfl (by omega) (by omega) ?_
              refine wp_run (k := 2) (pc1 := 26) (l1 := [(0, .ref 29), (1, .int (iN (zv))), (2, .int (iN (100))), (3, .int (iN ((100) / (10))))]) (st1 := []) (kr1 := (78, 76)) (h1 := zg1) rfl ?_
              rw [show (100) / (10) = (10 : Int) from by decide]
              refine wp_run (k := 1) (pc1 := 27) (l1 := [(0, .ref 29), (1, .int (iN (zv))), (2, .int (iN (100))), (3, .int (iN (10)))]) (st1 := [.int (iN (10))]) (kr1 := (78, 76)) (h1 := zg1) rfl ?_
              refine wp_le0 (a := 10) rfl (by omega) (fun b_27 => ?_) (fun b_27 => ?_)
              · exact absurd b_27 (by decide)
              · refine wp_run (k := 4) (pc1 := 35) (l1 := [(0, .ref 29), (1, .int (iN (zv))), (2, .int (iN (100))), (3, .int (iN (10)))]) (st1 := [.int (iN (10)), .int (iN (zv)), .int (iN (48)), .ref 29]) (kr1 := (78, 76)) (h1 := zg1) rfl ?_
                refine wp_divn (a := zv) (b := 10) rfl (by omega) (by omega) ?_
                refine wp_run (k := 1) (pc1 := 38) (l1 := [(0, .ref 29), (1, .int (iN (zv))), (2, .int (iN (100))), (3, .int (iN (10)))]) (st1 := [.int (iN (10)), .int (iN ((zv) / (10))), .int (iN (48)), .ref 29]) (kr1 := (78, 76)) (h1 := zg1) rfl ?_
                refine wp_remn (a := (zv) / (10)) (b := 10) rfl (by omega) (by omega) ?_
                refine wp_run (k := 1) (pc1 := 40) (l1 := [(0, .ref 29), (1, .int (iN (zv))), (2, .int (iN (100))), (3, .int (iN (10)))]) (st1 := [.int (iN ((48) + (((zv) / (10)) % (10)))), .ref 29]) (kr1 := (78, 76)) (h1 := zg1) (Eq.trans (b := (some (40, [(0, .ref 29), (1, .int (iN (zv))), (2, .int (iN (100))), (3, .int (iN (10)))], [.int ((iN (48)) + (iN (((zv) / (10)) % (10)))), .ref 29], (78, 76), zg1) : Option am_C)) rfl (by simp only [Int32.ofInt_add, Int32.ofInt_sub, Int32.ofInt_mul, Int32.ofInt_neg])) ?_
                refine wp_run (k := 1) (pc1 := 41) (l1 := [(0, .ref 29), (1, .int (iN (zv))), (2, .int (iN (100))), (3, .int (iN (10)))]) (st1 := [.int (((iN ((48) + (((zv) / (10)) % (10)))).toUInt32 % 65536).toInt32), .ref 29]) (kr1 := (78, 76)) (h1 := zg1) rfl ?_
                rw [show ((iN ((48) + (((zv) / (10)) % (10)))).toUInt32 % 65536).toInt32 = iN ((48) + (((zv) / (10)) % (10))) from (am_c16 (by omega)).2]
                refine wp_call (md1 := am_m_Printed_add) (As := [.ref 29, .int (iN ((48) + (((zv) / (10)) % (10))))]) (rest := []) (kr1 := (78, 76)) rfl (jt_padd (zl := (zl ++ [(48) + (((zv) / (100)) % (10))])) (zc := (48) + (((zv) / (10)) % (10))) _ (by omega) q_p1 (by simp only [List.length_append, List.length_cons, List.length_nil]; omega) (by omega)) ?_
                rintro _ zg2 ⟨rfl, q_f2, q_p2⟩
                refine wp_run (k := 2) (pc1 := 47) (l1 := [(0, .ref 29), (1, .int (iN (zv))), (2, .int (iN (100))), (3, .int (iN (10)))]) (st1 := [.int (iN (10)), .int (iN (10))]) (kr1 := (78, 76)) (h1 := zg2) rfl ?_
                refine wp_divn (a := 10) (b := 10) rfl (by omega) (by omega) ?_
                refine wp_run (k := 2) (pc1 := 26) (l1 := [(0, .ref 29), (1, .int (iN (zv))), (2, .int (iN (100))), (3, .int (iN ((10) / (10))))]) (st1 := []) (kr1 := (78, 76)) (h1 := zg2) rfl ?_
                rw [show (10) / (10) = (1 : Int) from by decide]
                refine wp_run (k := 1) (pc1 := 27) (l1 := [(0, .ref 29), (1, .int (iN (zv))), (2, .int (iN (100))), (3, .int (iN (1)))]) (st1 := [.int (iN (1))]) (kr1 := (78, 76)) (h1 := zg2) rfl ?_
                refine wp_le0 (a := 1) rfl (by omega) (fun b_27 => ?_) (fun b_27 => ?_)
                · exact absurd b_27 (by decide)
                · refine wp_run (k := 4) (pc1 := 35) (l1 := [(0, .ref 29), (1, .int (iN (zv))), (2, .int (iN (100))), (3, .int (iN (1)))]) (st1 := [.int (iN (1)), .int (iN (zv)), .int (iN (48)), .ref 29]) (kr1 := (78, 76)) (h1 := zg2) rfl ?_
                  refine wp_divn (a := zv) (b := 1) rfl (by omega) (by omega) ?_
                  refine wp_run (k := 1) (pc1 := 38) (l1 := [(0, .ref 29), (1, .int (iN (zv))), (2, .int (iN (100))), (3, .int (iN (1)))]) (st1 := [.int (iN (10)), .int (iN ((zv) / (1))), .int (iN (48)), .ref 29]) (kr1 := (78, 76)) (h1 := zg2) rfl ?_
                  refine wp_remn (a := (zv) / (1)) (b := 10) rfl (by omega) (by omega) ?_
                  refine wp_run (k := 1) (pc1 := 40) (l1 := [(0, .ref 29), (1, .int (iN (zv))), (2, .int (iN (100))), (3, .int (iN (1)))]) (st1 := [.int (iN ((48) + (((zv) / (1)) % (10)))), .ref 29]) (kr1 := (78, 76)) (h1 := zg2) (Eq.trans (b := (some (40, [(0, .ref 29), (1, .int (iN (zv))), (2, .int (iN (100))), (3, .int (iN (1)))], [.int ((iN (48)) + (iN (((zv) / (1)) % (10)))), .ref 29], (78, 76), zg2) : Option am_C)) rfl (by simp only [Int32.ofInt_add, Int32.ofInt_sub, Int32.ofInt_mul, Int32.ofInt_neg])) ?_
                  refine wp_run (k := 1) (pc1 := 41) (l1 := [(0, .ref 29), (1, .int (iN (zv))), (2, .int (iN (100))), (3, .int (iN (1)))]) (st1 := [.int (((iN ((48) + (((zv) / (1)) % (10)))).toUInt32 % 65536).toInt32), .ref 29]) (kr1 := (78, 76)) (h1 := zg2) rfl ?_
                  rw [show ((iN ((48) + (((zv) / (1)) % (10)))).toUInt32 % 65536).toInt32 = iN ((48) + (((zv) / (1)) % (10))) from (am_c16 (by omega)).2]
                  refine wp_call (md1 := am_m_Printed_add) (As := [.ref 29, .int (iN ((48) + (((zv) / (1)) % (10))))]) (rest := []) (kr1 := (78, 76)) rfl (jt_padd (zl := ((zl ++ [(48) + (((zv) / (100)) % (10))]) ++ [(48) + (((zv) / (10)) % (10))])) (zc := (48) + (((zv) / (1)) % (10))) _ (by omega) q_p2 (by simp only [List.length_append, List.length_cons, List.length_nil]; omega) (by omega)) ?_
                  rintro _ zg3 ⟨rfl, q_f3, q_p3⟩
                  refine wp_run (k := 2) (pc1 := 47) (l1 := [(0, .ref 29), (1, .int (iN (zv))), (2, .int (iN (100))), (3, .int (iN (1)))]) (st1 := [.int (iN (10)), .int (iN (1))]) (kr1 := (78, 76)) (h1 := zg3) rfl ?_
                  refine wp_divn (a := 1) (b := 10) rfl (by omega) (by omega) ?_
                  refine wp_run (k := 2) (pc1 := 26) (l1 := [(0, .ref 29), (1, .int (iN (zv))), (2, .int (iN (100))), (3, .int (iN ((1) / (10))))]) (st1 := []) (kr1 := (78, 76)) (h1 := zg3) rfl ?_
                  rw [show (1) / (10) = (0 : Int) from by decide]
                  refine wp_run (k := 1) (pc1 := 27) (l1 := [(0, .ref 29), (1, .int (iN (zv))), (2, .int (iN (100))), (3, .int (iN (0)))]) (st1 := [.int (iN (0))]) (kr1 := (78, 76)) (h1 := zg3) rfl ?_
                  refine wp_le0 (a := 0) rfl (by omega) (fun b_27 => ?_) (fun b_27 => ?_)
                  · refine wp_ret (rv := none) rfl ?_
                    refine ⟨rfl, am_fr_t (am_fr_t (q_f1) q_f2) q_f3, ?_⟩
                    rw [show zl ++ zDg zv = (((zl ++ [(48) + (((zv) / (100)) % (10))]) ++ [(48) + (((zv) / (10)) % (10))]) ++ [(48) + (((zv) / (1)) % (10))]) from ?_]
                    · exact q_p3
                    · unfold zDg
                      rw [if_neg (by omega), if_neg (by omega), if_pos (by omega)]
                      have y_t : zv / 100 % 10 = zv / 100 := by omega
                      have y_1 : zv / 1 = zv := by omega
                      try simp only [List.append_assoc, List.cons_append, List.nil_append]
                      rw [y_t, y_1]
                  · exact absurd b_27 (by decide)
          · exact absurd b_7 (by omega)
set_option maxRecDepth 20000 in
set_option maxHeartbeats 4000000 in
theorem jl_pnum4 (zd : Nat) (q_d : 2 ≤ zd) {zh : am_H} {zl : List Int} {zv : Int} (q_p : zPr 30 29 1 zh zl) (q_n : zl.length + 4 ≤ 256) (q_v : 1000 ≤ zv ∧ zv < 10000) : am_wp zd am_m_Printed_addNumber 0 [(0, .ref 29), (1, .int (iN (zv)))] [] (78, 76) zh (78, 76) (fun rv h' => rv = none ∧ am_fr [29, 30] zh h' ∧ zPr 30 29 1 h' (zl ++ zDg zv)) := by
  obtain ⟨zd, rfl⟩ : ∃ y_e, zd = y_e + 2 := ⟨zd - 2, by omega⟩
  refine wp_run (k := 2) (pc1 := 2) (l1 := [(0, .ref 29), (1, .int (iN (zv))), (2, .int (iN (1)))]) (st1 := []) (kr1 := (78, 76)) (h1 := zh) rfl ?_
  refine wp_run (k := 3) (pc1 := 6) (l1 := [(0, .ref 29), (1, .int (iN (zv))), (2, .int (iN (1)))]) (st1 := [.int (iN (10)), .int (iN (zv)), .int (iN (1))]) (kr1 := (78, 76)) (h1 := zh) rfl ?_
  refine wp_divn (a := zv) (b := 10) rfl (by omega) (by omega) ?_
  refine wp_gt (a := 1) (b := (zv) / (10)) rfl (by omega) (by omega) (fun b_7 => ?_) (fun b_7 => ?_)
  · exact absurd b_7 (by omega)
  · refine wp_run (k := 2) (pc1 := 13) (l1 := [(0, .ref 29), (1, .int (iN (zv))), (2, .int (iN (1)))]) (st1 := [.int (iN (1000000000)), .int (iN (1))]) (kr1 := (78, 76)) (h1 := zh) rfl ?_
    refine wp_ge (a := 1) (b := 1000000000) rfl (by omega) (by omega) (fun b_13 => ?_) (fun b_13 => ?_)
    · exact absurd b_13 (by decide)
    · refine wp_run (k := 5) (pc1 := 2) (l1 := [(0, .ref 29), (1, .int (iN (zv))), (2, .int (iN ((1) * (10))))]) (st1 := []) (kr1 := (78, 76)) (h1 := zh) (Eq.trans (b := (some (2, [(0, .ref 29), (1, .int (iN (zv))), (2, .int ((iN (1)) * (iN (10))))], [], (78, 76), zh) : Option am_C)) rfl (by simp only [Int32.ofInt_add, Int32.ofInt_sub, Int32.ofInt_mul, Int32.ofInt_neg])) ?_
      rw [show (1) * (10) = (10 : Int) from by decide]
      refine wp_run (k := 3) (pc1 := 6) (l1 := [(0, .ref 29), (1, .int (iN (zv))), (2, .int (iN (10)))]) (st1 := [.int (iN (10)), .int (iN (zv)), .int (iN (10))]) (kr1 := (78, 76)) (h1 := zh) rfl ?_
      refine wp_divn (a := zv) (b := 10) rfl (by omega) (by omega) ?_
      refine wp_gt (a := 10) (b := (zv) / (10)) rfl (by omega) (by omega) (fun b_7 => ?_) (fun b_7 => ?_)
      · exact absurd b_7 (by omega)
      · refine wp_run (k := 2) (pc1 := 13) (l1 := [(0, .ref 29), (1, .int (iN (zv))), (2, .int (iN (10)))]) (st1 := [.int (iN (1000000000)), .int (iN (10))]) (kr1 := (78, 76)) (h1 := zh) rfl ?_
        refine wp_ge (a := 10) (b := 1000000000) rfl (by omega) (by omega) (fun b_13 => ?_) (fun b_13 => ?_)
        · exact absurd b_13 (by decide)
        · refine wp_run (k := 5) (pc1 := 2) (l1 := [(0, .ref 29), (1, .int (iN (zv))), (2, .int (iN ((10) * (10))))]) (st1 := []) (kr1 := (78, 76)) (h1 := zh) (Eq.trans (b := (some (2, [(0, .ref 29), (1, .int (iN (zv))), (2, .int ((iN (10)) * (iN (10))))], [], (78, 76), zh) : Option am_C)) rfl (by simp only [Int32.ofInt_add, Int32.ofInt_sub, Int32.ofInt_mul, Int32.ofInt_neg])) ?_
          rw [show (10) * (10) = (100 : Int) from by decide]
          refine wp_run (k := 3) (pc1 := 6) (l1 := [(0, .ref 29), (1, .int (iN (zv))), (2, .int (iN (100)))]) (st1 := [.int (iN (10)), .int (iN (zv)), .int (iN (100))]) (kr1 := (78, 76)) (h1 := zh) rfl ?_
          refine wp_divn (a := zv) (b := 10) rfl (by omega) (by omega) ?_
          refine wp_gt (a := 100) (b := (zv) / (10)) rfl (by omega) (by omega) (fun b_7 => ?_) (fun b_7 => ?_)
          · exact absurd b_7 (by omega)
          · refine wp_run (k := 2) (pc1 := 13) (l1 := [(0, .ref 29), (1, .int (iN (zv))), (2, .int (iN (100)))]) (st1 := [.int (iN (1000000000)), .int (iN (100))]) (kr1 := (78, 76)) (h1 := zh) rfl ?_
            refine wp_ge (a := 100) (b := 1000000000) rfl (by omega) (by omega) (fun b_13 => ?_) (fun b_13 => ?_)
            · exact absurd b_13 (by decide)
            · refine wp_run (k := 5) (pc1 := 2) (l1 := [(0, .ref 29), (1, .int (iN (zv))), (2, .int (iN ((100) * (10))))]) (st1 := []) (kr1 := (78, 76)) (h1 := zh) (Eq.trans (b := (some (2, [(0, .ref 29), (1, .int (iN (zv))), (2, .int ((iN (100)) * (iN (10))))], [], (78, 76), zh) : Option am_C)) rfl (by simp only [Int32.ofInt_add, Int32.ofInt_sub, Int32.ofInt_mul, Int32.ofInt_neg])) ?_
              rw [show (100) * (10) = (1000 : Int) from by decide]
              refine wp_run (k := 3) (pc1 := 6) (l1 := [(0, .ref 29), (1, .int (iN (zv))), (2, .int (iN (1000)))]) (st1 := [.int (iN (10)), .int (iN (zv)), .int (iN (1000))]) (kr1 := (78, 76)) (h1 := zh) rfl ?_
              refine wp_divn (a := zv) (b := 10) rfl (by omega) (by omega) ?_
              refine wp_gt (a := 1000) (b := (zv) / (10)) rfl (by omega) (by omega) (fun b_7 => ?_) (fun b_7 => ?_)
              · refine wp_run (k := 2) (pc1 := 26) (l1 := [(0, .ref 29), (1, .int (iN (zv))), (2, .int (iN (1000))), (3, .int (iN (1000)))]) (st1 := []) (kr1 := (78, 76)) (h1 := zh) rfl ?_
                refine wp_run (k := 1) (pc1 := 27) (l1 := [(0, .ref 29), (1, .int (iN (zv))), (2, .int (iN (1000))), (3, .int (iN (1000)))]) (st1 := [.int (iN (1000))]) (kr1 := (78, 76)) (h1 := zh) rfl ?_
                refine wp_le0 (a := 1000) rfl (by omega) (fun b_27 => ?_) (fun b_27 => ?_)
                · exact absurd b_27 (by decide)
                · refine wp_run (k := 4) (pc1 := 35) (l1 := [(0, .ref 29), (1, .int (iN (zv))), (2, .int (iN (1000))), (3, .int (iN (1000)))]) (st1 := [.int (iN (1000)), .int (iN (zv)), .int (iN (48)), .ref 29]) (kr1 := (78, 76)) (h1 := zh) rfl ?_
                  refine wp_divn (a := zv) (b := 1000) rfl (by omega) (by omega) ?_
                  refine wp_run (k := 1) (pc1 := 38) (l1 := [(0, .ref 29), (1, .int (iN (zv))), (2, .int (iN (1000))), (3, .int (iN (1000)))]) (st1 := [.int (iN (10)), .int (iN ((zv) / (1000))), .int (iN (48)), .ref 29]) (kr1 := (78, 76)) (h1 := zh) rfl ?_
                  refine wp_remn (a := (zv) / (1000)) (b := 10) rfl (by omega) (by omega) ?_
                  refine wp_run (k := 1) (pc1 := 40) (l1 := [(0, .ref 29), (1, .int (iN (zv))), (2, .int (iN (1000))), (3, .int (iN (1000)))]) (st1 := [.int (iN ((48) + (((zv) / (1000)) % (10)))), .ref 29]) (kr1 := (78, 76)) (h1 := zh) (Eq.trans (b := (some (40, [(0, .ref 29), (1, .int (iN (zv))), (2, .int (iN (1000))), (3, .int (iN (1000)))], [.int ((iN (48)) + (iN (((zv) / (1000)) % (10)))), .ref 29], (78, 76), zh) : Option am_C)) rfl (by simp only [Int32.ofInt_add, Int32.ofInt_sub, Int32.ofInt_mul, Int32.ofInt_neg])) ?_
                  refine wp_run (k := 1) (pc1 := 41) (l1 := [(0, .ref 29), (1, .int (iN (zv))), (2, .int (iN (1000))), (3, .int (iN (1000)))]) (st1 := [.int (((iN ((48) + (((zv) / (1000)) % (10)))).toUInt32 % 65536).toInt32), .ref 29]) (kr1 := (78, 76)) (h1 := zh) rfl ?_
                  rw [show ((iN ((48) + (((zv) / (1000)) % (10)))).toUInt32 % 65536).toInt32 = iN ((48) + (((zv) / (1000)) % (10))) from (am_c16 (by omega)).2]
                  refine wp_call (md1 := am_m_Printed_add) (As := [.ref 29, .int (iN ((48) + (((zv) / (1000)) % (10))))]) (rest := []) (kr1 := (78, 76)) rfl (jt_padd (zl := zl) (zc := (48) + (((zv) / (1000)) % (10))) _ (by omega) q_p (by omega) (by omega)) ?_
                  rintro _ zg1 ⟨rfl, q_f1, q_p1⟩
                  refine wp_run (k := 2) (pc1 := 47) (l1 := [(0, .ref 29), (1, .int (iN (zv))), (2, .int (iN (1000))), (3, .int (iN (1000)))]) (st1 := [.int (iN (10)), .int (iN (1000))]) (kr1 := (78, 76)) (h1 := zg1) rfl ?_
                  refine wp_divn (a := 1000) (b := 10) rfl (by omega) (by omega) ?_
                  refine wp_run (k := 2) (pc1 := 26) (l1 := [(0, .ref 29), (1, .int (iN (zv))), (2, .int (iN (1000))), (3, .int (iN ((1000) / (10))))]) (st1 := []) (kr1 := (78, 76)) (h1 := zg1) rfl ?_
                  rw [show (1000) / (10) = (100 : Int) from by decide]
                  refine wp_run (k := 1) (pc1 := 27) (l1 := [(0, .ref 29), (1, .int (iN (zv))), (2, .int (iN (1000))), (3, .int (iN (100)))]) (st1 := [.int (iN (100))]) (kr1 := (78, 76)) (h1 := zg1) rfl ?_
                  refine wp_le0 (a := 100) rfl (by omega) (fun b_27 => ?_) (fun b_27 => ?_)
                  · exact absurd b_27 (by decide)
                  · refine wp_run (k := 4) (pc1 := 35) (l1 := [(0, .ref 29), (1, .int (iN (zv))), (2, .int (iN (1000))), (3, .int (iN (100)))]) (st1 := [.int (iN (100)), .int (iN (zv)), .int (iN (48)), .ref 29]) (kr1 := (78, 76)) (h1 := zg1) rfl ?_
                    refine wp_divn (a := zv) (b := 100) rfl (by omega) (by omega) ?_
                    refine wp_run (k := 1) (pc1 := 38) (l1 := [(0, .ref 29), (1, .int (iN (zv))), (2, .int (iN (1000))), (3, .int (iN (100)))]) (st1 := [.int (iN (10)), .int (iN ((zv) / (100))), .int (iN (48)), .ref 29]) (kr1 := (78, 76)) (h1 := zg1) rfl ?_
                    refine wp_remn (a := (zv) / (100)) (b := 10) rfl (by omega) (by omega) ?_
                    refine wp_run (k := 1) (pc1 := 40) (l1 := [(0, .ref 29), (1, .int (iN (zv))), (2, .int (iN (1000))), (3, .int (iN (100)))]) (st1 := [.int (iN ((48) + (((zv) / (100)) % (10)))), .ref 29]) (kr1 := (78, 76)) (h1 := zg1) (Eq.trans (b := (some (40, [(0, .ref 29), (1, .int (iN (zv))), (2, .int (iN (1000))), (3, .int (iN (100)))], [.int ((iN (48)) + (iN (((zv) / (100)) % (10)))), .ref 29], (78, 76), zg1) : Option am_C)) rfl (by simp only [Int32.ofInt_add, Int32.ofInt_sub, Int32.ofInt_mul, Int32.ofInt_neg])) ?_
                    refine wp_run (k := 1) (pc1 := 41) (l1 := [(0, .ref 29), (1, .int (iN (zv))), (2, .int (iN (1000))), (3, .int (iN (100)))]) (st1 := [.int (((iN ((48) + (((zv) / (100)) % (10)))).toUInt32 % 65536).toInt32), .ref 29]) (kr1 := (78, 76)) (h1 := zg1) rfl ?_
                    rw [show ((iN ((48) + (((zv) / (100)) % (10)))).toUInt32 % 65536).toInt32 = iN ((48) + (((zv) / (100)) % (10))) from (am_c16 (by omega)).2]
                    refine wp_call (md1 := am_m_Printed_add) (As := [.ref 29, .int (iN ((48) + (((zv) / (100)) % (10))))]) (rest := []) (kr1 := (78, 76)) rfl (jt_padd (zl := (zl ++ [(48) + (((zv) / (1000)) % (10))])) (zc := (48) + (((zv) / (100)) % (10))) _ (by omega) q_p1 (by simp only [List.length_append, List.length_cons, List.length_nil]; omega) (by omega)) ?_
                    rintro _ zg2 ⟨rfl, q_f2, q_p2⟩
                    refine wp_run (k := 2) (pc1 := 47) (l1 := [(0, .ref 29), (1, .int (iN (zv))), (2, .int (iN (1000))), (3, .int (iN (100)))]) (st1 := [.int (iN (10)), .int (iN (100))]) (kr1 := (78, 76)) (h1 := zg2) rfl ?_
                    refine wp_divn (a := 100) (b := 10) rfl (by omega) (by omega) ?_
                    refine wp_run (k := 2) (pc1 := 26) (l1 := [(0, .ref 29), (1, .int (iN (zv))), (2, .int (iN (1000))), (3, .int (iN ((100) / (10))))]) (st1 := []) (kr1 := (78, 76)) (h1 := zg2) rfl ?_
                    rw [show (100) / (10) = (10 : Int) from by decide]
                    refine wp_run (k := 1) (pc1 := 27) (l1 := [(0, .ref 29), (1, .int (iN (zv))), (2, .int (iN (1000))), (3, .int (iN (10)))]) (st1 := [.int (iN (10))]) (kr1 := (78, 76)) (h1 := zg2) rfl ?_
                    refine wp_le0 (a := 10) rfl (by omega) (fun b_27 => ?_) (fun b_27 => ?_)
                    · exact absurd b_27 (by decide)
                    · refine wp_run (k := 4) (pc1 := 35) (l1 := [(0, .ref 29), (1, .int (iN (zv))), (2, .int (iN (1000))), (3, .int (iN (10)))]) (st1 := [.int (iN (10)), .int (iN (zv)), .int (iN (48)), .ref 29]) (kr1 := (78, 76)) (h1 := zg2) rfl ?_
                      refine wp_divn (a := zv) (b := 10) rfl (by omega) (by omega) ?_
                      refine wp_run (k := 1) (pc1 := 38) (l1 := [(0, .ref 29), (1, .int (iN (zv))), (2, .int (iN (1000))), (3, .int (iN (10)))]) (st1 := [.int (iN (10)), .int (iN ((zv) / (10))), .int (iN (48)), .ref 29]) (kr1 := (78, 76)) (h1 := zg2) rfl ?_
                      refine wp_remn (a := (zv) / (10)) (b := 10) rfl (by omega) (by omega) ?_
                      refine wp_run (k := 1) (pc1 := 40) (l1 := [(0, .ref 29), (1, .int (iN (zv))), (2, .int (iN (1000))), (3, .int (iN (10)))]) (st1 := [.int (iN ((48) + (((zv) / (10)) % (10)))), .ref 29]) (kr1 := (78, 76)) (h1 := zg2) (Eq.trans (b := (some (40, [(0, .ref 29), (1, .int (iN (zv))), (2, .int (iN (1000))), (3, .int (iN (10)))], [.int ((iN (48)) + (iN (((zv) / (10)) % (10)))), .ref 29], (78, 76), zg2) : Option am_C)) rfl (by simp only [Int32.ofInt_add, Int32.ofInt_sub, Int32.ofInt_mul, Int32.ofInt_neg])) ?_
                      refine wp_run (k := 1) (pc1 := 41) (l1 := [(0, .ref 29), (1, .int (iN (zv))), (2, .int (iN (1000))), (3, .int (iN (10)))]) (st1 := [.int (((iN ((48) + (((zv) / (10)) % (10)))).toUInt32 % 65536).toInt32), .ref 29]) (kr1 := (78, 76)) (h1 := zg2) rfl ?_
                      rw [show ((iN ((48) + (((zv) / (10)) % (10)))).toUInt32 % 65536).toInt32 = iN ((48) + (((zv) / (10)) % (10))) from (am_c16 (by omega)).2]
                      refine wp_call (md1 := am_m_Printed_add) (As := [.ref 29, .int (iN ((48) + (((zv) / (10)) % (10))))]) (rest := []) (kr1 := (78, 76)) rfl (jt_padd (zl := ((zl ++ [(48) + (((zv) / (1000)) % (10))]) ++ [(48) + (((zv) / (100)) % (10))])) (zc := (48) + (((zv) / (10)) % (10))) _ (by omega) q_p2 (by simp only [List.length_append, List.length_cons, List.length_nil]; omega) (by omega)) ?_
                      rintro _ zg3 ⟨rfl, q_f3, q_p3⟩
                      refine wp_run (k := 2) (pc1 := 47) (l1 := [(0, .ref 29), (1, .int (iN (zv))), (2, .int (iN (1000))), (3, .int (iN (10)))]) (st1 := [.int (iN (10)), .int (iN (10))]) (kr1 := (78, 76)) (h1 := zg3) rfl ?_
                      refine wp_divn (a := 10) (b := 10) rfl (by omega) (by omega) ?_
                      refine wp_run (k := 2) (pc1 := 26) (l1 := [(0, .ref 29), (1, .int (iN (zv))), (2, .int (iN (1000))), (3, .int (iN ((10) / (10))))]) (st1 := []) (kr1 := (78, 76)) (h1 := zg3) rfl ?_
                      rw [show (10) / (10) = (1 : Int) from by decide]
                      refine wp_run (k := 1) (pc1 := 27) (l1 := [(0, .ref 29), (1, .int (iN (zv))), (2, .int (iN (1000))), (3, .int (iN (1)))]) (st1 := [.int (iN (1))]) (kr1 := (78, 76)) (h1 := zg3) rfl ?_
                      refine wp_le0 (a := 1) rfl (by omega) (fun b_27 => ?_) (fun b_27 => ?_)
                      · exact absurd b_27 (by decide)
                      · refine wp_run (k := 4) (pc1 := 35) (l1 := [(0, .ref 29), (1, .int (iN (zv))), (2, .int (iN (1000))), (3, .int (iN (1)))]) (st1 := [.int (iN (1)), .int (iN (zv)), .int (iN (48)), .ref 29]) (kr1 := (78, 76)) (h1 := zg3) rfl ?_
                        refine wp_divn (a := zv) (b := 1) rfl (by omega) (by omega) ?_
                        refine wp_run (k := 1) (pc1 := 38) (l1 := [(0, .ref 29), (1, .int (iN (zv))), (2, .int (iN (1000))), (3, .int (iN (1)))]) (st1 := [.int (iN (10)), .int (iN ((zv) / (1))), .int (iN (48)), .ref 29]) (kr1 := (78, 76)) (h1 := zg3) rfl ?_
                        refine wp_remn (a := (zv) / (1)) (b := 10) rfl (by omega) (by omega) ?_
                        refine wp_run (k := 1) (pc1 := 40) (l1 := [(0, .ref 29), (1, .int (iN (zv))), (2, .int (iN (1000))), (3, .int (iN (1)))]) (st1 := [.int (iN ((48) + (((zv) / (1)) % (10)))), .ref 29]) (kr1 := (78, 76)) (h1 := zg3) (Eq.trans (b := (some (40, [(0, .ref 29), (1, .int (iN (zv))), (2, .int (iN (1000))), (3, .int (iN (1)))], [.int ((iN (48)) + (iN (((zv) / (1)) % (10)))), .ref 29], (78, 76), zg3) : Option am_C)) rfl (by simp only [Int32.ofInt_add, Int32.ofInt_sub, Int32.ofInt_mul, Int32.ofInt_neg])) ?_
                        refine wp_run (k := 1) (pc1 := 41) (l1 := [(0, .ref 29), (1, .int (iN (zv))), (2, .int (iN (1000))), (3, .int (iN (1)))]) (st1 := [.int (((iN ((48) + (((zv) / (1)) % (10)))).toUInt32 % 65536).toInt32), .ref 29]) (kr1 := (78, 76)) (h1 := zg3) rfl ?_
                        rw [show ((iN ((48) + (((zv) / (1)) % (10)))).toUInt32 % 65536).toInt32 = iN ((48) + (((zv) / (1)) % (10))) from (am_c16 (by omega)).2]
                        refine wp_call (md1 := am_m_Printed_add) (As := [.ref 29, .int (iN ((48) + (((zv) / (1)) % (10))))]) (rest := []) (kr1 := (78, 76)) rfl (jt_padd (zl := (((zl ++ [(48) + (((zv) / (1000)) % (10))]) ++ [(48) + (((zv) / (100)) % (10))]) ++ [(48) + (((zv) / (10)) % (10))])) (zc := (48) + (((zv) / (1)) % (10))) _ (by omega) q_p3 (by simp only [List.length_append, List.length_cons, List.length_nil]; omega) (by omega)) ?_
                        rintro _ zg4 ⟨rfl, q_f4, q_p4⟩
                        refine wp_run (k := 2) (pc1 := 47) (l1 := [(0, .ref 29), (1, .int (iN (zv))), (2, .int (iN (1000))), (3, .int (iN (1)))]) (st1 := [.int (iN (10)), .int (iN (1))]) (kr1 := (78, 76)) (h1 := zg4) rfl ?_
                        refine wp_divn (a := 1) (b := 10) rfl (by omega) (by omega) ?_
                        refine wp_run (k := 2) (pc1 := 26) (l1 := [(0, .ref 29), (1, .int (iN (zv))), (2, .int (iN (1000))), (3, .int (iN ((1) / (10))))]) (st1 := []) (kr1 := (78, 76)) (h1 := zg4) rfl ?_
                        rw [show (1) / (10) = (0 : Int) from by decide]
                        refine wp_run (k := 1) (pc1 := 27) (l1 := [(0, .ref 29), (1, .int (iN (zv))), (2, .int (iN (1000))), (3, .int (iN (0)))]) (st1 := [.int (iN (0))]) (kr1 := (78, 76)) (h1 := zg4) rfl ?_
                        refine wp_le0 (a := 0) rfl (by omega) (fun b_27 => ?_) (fun b_27 => ?_)
                        · refine wp_ret (rv := none) rfl ?_
                          refine ⟨rfl, am_fr_t (am_fr_t (am_fr_t (q_f1) q_f2) q_f3) q_f4, ?_⟩
                          rw [show zl ++ zDg zv = ((((zl ++ [(48) + (((zv) / (1000)) % (10))]) ++ [(48) + (((zv) / (100)) % (10))]) ++ [(48) + (((zv) / (10)) % (10))]) ++ [(48) + (((zv) / (1)) % (10))]) from ?_]
                          · exact q_p4
                          · unfold zDg
                            rw [if_neg (by omega), if_neg (by omega), if_neg (by omega)]
                            have y_t : zv / 1000 % 10 = zv / 1000 := by omega
                            have y_1 : zv / 1 = zv := by omega
                            try simp only [List.append_assoc, List.cons_append, List.nil_append]
                            rw [y_t, y_1]
                        · exact absurd b_27 (by decide)
              · exact absurd b_7 (by omega)
theorem jt_pnum (zd : Nat) (q_d : 2 ≤ zd) {zh : am_H} {zl : List Int} {zv : Int} (q_p : zPr 30 29 1 zh zl) (q_n : zl.length + 4 ≤ 256) (q_v : 0 ≤ zv ∧ zv < 10000) : am_wp zd am_m_Printed_addNumber 0 [(0, .ref 29), (1, .int (iN (zv)))] [] (78, 76) zh (78, 76) (fun rv h' => rv = none ∧ am_fr [29, 30] zh h' ∧ zPr 30 29 1 h' (zl ++ zDg zv)) := by
  by_cases y1 : zv < 10
  · exact jl_pnum1 zd q_d q_p q_n (by omega)
  · by_cases y2 : zv < 100
    · exact jl_pnum2 zd q_d q_p q_n (by omega)
    · by_cases y3 : zv < 1000
      · exact jl_pnum3 zd q_d q_p q_n (by omega)
      · exact jl_pnum4 zd q_d q_p q_n (by omega)
set_option maxRecDepth 20000 in
set_option maxHeartbeats 4000000 in
theorem jm_says (zd : Nat) (q_d : 0 ≤ zd) {zh : am_H} {zl : List Int} {zc : Int} (q_p : zPr 73 55 31 zh zl) (q_n : zl.length < 320) : am_wp zd am_m_Model_says 0 [(0, .ref 55), (1, .int (iN (zc)))] [] (78, 76) zh (78, 76) (fun rv h' => rv = none ∧ am_fr [55, 73] zh h' ∧ (∀ zs : Nat, zs ≠ 31 → h'.1 55 zs = zh.1 55 zs) ∧ zPr 73 55 31 h' (zl ++ [zc])) := by
  obtain ⟨zd, rfl⟩ : ∃ y_e, zd = y_e + 0 := ⟨zd - 0, by omega⟩
  refine wp_run (k := 5) (pc1 := 9) (l1 := [(0, .ref 55), (1, .int (iN (zc)))]) (st1 := [.int (iN (zc)), .int (iN ((zl.length : Int))), .ref 73]) (kr1 := (78, 76)) (h1 := zh) (Eq.trans (b := (some (9, [(0, .ref 55), (1, .int (iN (zc)))], [.int (iN (zc)), .int (zh.1 55 31), .ref 73], (78, 76), zh) : Option am_C)) rfl (by simp only [q_p.1, Int32.ofInt_add, Int32.ofInt_sub, Int32.ofInt_mul, Int32.ofInt_neg])) ?_
  refine wp_iast (z := (zl.length : Int)) (j := ((zl.length : Int)).toNat) (n := 320) rfl (by decide) (by decide) rfl rfl (by omega) (by omega) (by decide) ?_
  refine wp_run (k := 5) (pc1 := 17) (l1 := [(0, .ref 55), (1, .int (iN (zc)))]) (st1 := [.int (iN (((zl.length : Int)) + (1))), .ref 55]) (kr1 := (78, 76)) (h1 := am_wr zh 73 (((zl.length : Int)).toNat) (iN (zc))) (Eq.trans (b := (some (17, [(0, .ref 55), (1, .int (iN (zc)))], [.int (((am_wr zh 73 (((zl.length : Int)).toNat) (iN (zc))).1 55 31) + (iN (1))), .ref 55], (78, 76), am_wr zh 73 (((zl.length : Int)).toNat) (iN (zc))) : Option am_C)) rfl (by simp only [(show (am_wr zh 73 (((zl.length : Int)).toNat) (iN (zc))).1 55 31 = iN (zl.length : Int) from (congrFun (am_wr_ne (by decide)) 31).trans q_p.1)]; try simp only [Int32.ofInt_add, Int32.ofInt_sub, Int32.ofInt_mul, Int32.ofInt_neg])) ?_
  refine wp_run (k := 1) (pc1 := 20) (l1 := [(0, .ref 55), (1, .int (iN (zc)))]) (st1 := []) (kr1 := (78, 76)) (h1 := am_wr (am_wr zh 73 (((zl.length : Int)).toNat) (iN (zc))) 55 31 (iN (((zl.length : Int)) + (1)))) rfl ?_
  refine wp_ret (rv := none) rfl ?_
  exact ⟨rfl, am_fr_w (am_fr_w (am_fr_0 _ _) (by decide) _ _) (by decide) _ _, fun zs y => by rw [am_wr_no y, am_wr_ne (by decide)], zPr_add rfl (by decide) q_p⟩
set_option maxRecDepth 20000 in
set_option maxHeartbeats 4000000 in
theorem jl_says1 (zd : Nat) (q_d : 1 ≤ zd) {zh : am_H} {zl : List Int} {zv : Int} (q_p : zPr 73 55 31 zh zl) (q_n : zl.length + 8 ≤ 320) (q_v : 0 ≤ zv ∧ zv < 10) : am_wp zd am_m_Model_saysNumber 0 [(0, .ref 55), (1, .int (iN (zv)))] [] (78, 76) zh (78, 76) (fun rv h' => rv = none ∧ am_fr [55, 73] zh h' ∧ (∀ zs : Nat, zs ≠ 31 → h'.1 55 zs = zh.1 55 zs) ∧ zPr 73 55 31 h' (zl ++ zDg zv)) := by
  obtain ⟨zd, rfl⟩ : ∃ y_e, zd = y_e + 1 := ⟨zd - 1, by omega⟩
  refine wp_run (k := 2) (pc1 := 3) (l1 := [(0, .ref 55), (1, .int (iN (zv)))]) (st1 := [.int (iN (9)), .int (iN (zv))]) (kr1 := (78, 76)) (h1 := zh) rfl ?_
  refine wp_le (a := zv) (b := 9) rfl (by omega) (by omega) (fun b_3 => ?_) (fun b_3 => ?_)
  · refine wp_run (k := 4) (pc1 := 20) (l1 := [(0, .ref 55), (1, .int (iN (zv)))]) (st1 := [.int (iN (10)), .int (iN (zv)), .int (iN (48)), .ref 55]) (kr1 := (78, 76)) (h1 := zh) rfl ?_
    refine wp_remn (a := zv) (b := 10) rfl (by omega) (by omega) ?_
    refine wp_run (k := 1) (pc1 := 22) (l1 := [(0, .ref 55), (1, .int (iN (zv)))]) (st1 := [.int (iN ((48) + ((zv) % (10)))), .ref 55]) (kr1 := (78, 76)) (h1 := zh) (Eq.trans (b := (some (22, [(0, .ref 55), (1, .int (iN (zv)))], [.int ((iN (48)) + (iN ((zv) % (10)))), .ref 55], (78, 76), zh) : Option am_C)) rfl (by simp only [Int32.ofInt_add, Int32.ofInt_sub, Int32.ofInt_mul, Int32.ofInt_neg])) ?_
    refine wp_call (md1 := am_m_Model_says) (As := [.ref 55, .int (iN ((48) + ((zv) % (10))))]) (rest := []) (kr1 := (78, 76)) rfl (jm_says (zl := zl) (zc := (48) + ((zv) % (10))) _ (by omega) q_p (by omega)) ?_
    rintro _ zg2 ⟨rfl, q_f2, q_s2, q_p2⟩
    refine wp_ret (rv := none) rfl ?_
    have y_v : zDg zv = [48 + zv % 10] := by unfold zDg; rw [if_pos (by omega), show zv % 10 = zv by omega]
    exact ⟨rfl, q_f2, q_s2, by rw [y_v]; exact q_p2⟩
  · exact absurd b_3 (by omega)
set_option maxRecDepth 20000 in
set_option maxHeartbeats 4000000 in
theorem jl_says2 (zd : Nat) (q_d : 2 ≤ zd) {zh : am_H} {zl : List Int} {zv : Int} (q_p : zPr 73 55 31 zh zl) (q_n : zl.length + 8 ≤ 320) (q_v : 0 ≤ zv ∧ zv < 100) : am_wp zd am_m_Model_saysNumber 0 [(0, .ref 55), (1, .int (iN (zv)))] [] (78, 76) zh (78, 76) (fun rv h' => rv = none ∧ am_fr [55, 73] zh h' ∧ (∀ zs : Nat, zs ≠ 31 → h'.1 55 zs = zh.1 55 zs) ∧ zPr 73 55 31 h' (zl ++ zDg zv)) := by
  obtain ⟨zd, rfl⟩ : ∃ y_e, zd = y_e + 2 := ⟨zd - 2, by omega⟩
  refine wp_run (k := 2) (pc1 := 3) (l1 := [(0, .ref 55), (1, .int (iN (zv)))]) (st1 := [.int (iN (9)), .int (iN (zv))]) (kr1 := (78, 76)) (h1 := zh) rfl ?_
  refine wp_le (a := zv) (b := 9) rfl (by omega) (by omega) (fun b_3 => ?_) (fun b_3 => ?_)
  · refine wp_run (k := 4) (pc1 := 20) (l1 := [(0, .ref 55), (1, .int (iN (zv)))]) (st1 := [.int (iN (10)), .int (iN (zv)), .int (iN (48)), .ref 55]) (kr1 := (78, 76)) (h1 := zh) rfl ?_
    refine wp_remn (a := zv) (b := 10) rfl (by omega) (by omega) ?_
    refine wp_run (k := 1) (pc1 := 22) (l1 := [(0, .ref 55), (1, .int (iN (zv)))]) (st1 := [.int (iN ((48) + ((zv) % (10)))), .ref 55]) (kr1 := (78, 76)) (h1 := zh) (Eq.trans (b := (some (22, [(0, .ref 55), (1, .int (iN (zv)))], [.int ((iN (48)) + (iN ((zv) % (10)))), .ref 55], (78, 76), zh) : Option am_C)) rfl (by simp only [Int32.ofInt_add, Int32.ofInt_sub, Int32.ofInt_mul, Int32.ofInt_neg])) ?_
    refine wp_call (md1 := am_m_Model_says) (As := [.ref 55, .int (iN ((48) + ((zv) % (10))))]) (rest := []) (kr1 := (78, 76)) rfl (jm_says (zl := zl) (zc := (48) + ((zv) % (10))) _ (by omega) q_p (by omega)) ?_
    rintro _ zg2 ⟨rfl, q_f2, q_s2, q_p2⟩
    refine wp_ret (rv := none) rfl ?_
    have y_v : zDg zv = [48 + zv % 10] := by unfold zDg; rw [if_pos (by omega), show zv % 10 = zv by omega]
    exact ⟨rfl, q_f2, q_s2, by rw [y_v]; exact q_p2⟩
  · refine wp_run (k := 3) (pc1 := 10) (l1 := [(0, .ref 55), (1, .int (iN (zv)))]) (st1 := [.int (iN (10)), .int (iN (zv)), .ref 55]) (kr1 := (78, 76)) (h1 := zh) rfl ?_
    refine wp_divn (a := zv) (b := 10) rfl (by omega) (by omega) ?_
    refine wp_call (md1 := am_m_Model_saysNumber) (As := [.ref 55, .int (iN ((zv) / (10)))]) (rest := []) (kr1 := (78, 76)) rfl (jl_says1 _ (by omega) (zl := zl) (zv := (zv) / (10)) q_p (by omega) (by omega)) ?_
    rintro _ zg1 ⟨rfl, q_f1, q_s1, q_p1⟩
    refine wp_run (k := 4) (pc1 := 20) (l1 := [(0, .ref 55), (1, .int (iN (zv)))]) (st1 := [.int (iN (10)), .int (iN (zv)), .int (iN (48)), .ref 55]) (kr1 := (78, 76)) (h1 := zg1) rfl ?_
    refine wp_remn (a := zv) (b := 10) rfl (by omega) (by omega) ?_
    refine wp_run (k := 1) (pc1 := 22) (l1 := [(0, .ref 55), (1, .int (iN (zv)))]) (st1 := [.int (iN ((48) + ((zv) % (10)))), .ref 55]) (kr1 := (78, 76)) (h1 := zg1) (Eq.trans (b := (some (22, [(0, .ref 55), (1, .int (iN (zv)))], [.int ((iN (48)) + (iN ((zv) % (10)))), .ref 55], (78, 76), zg1) : Option am_C)) rfl (by simp only [Int32.ofInt_add, Int32.ofInt_sub, Int32.ofInt_mul, Int32.ofInt_neg])) ?_
    refine wp_call (md1 := am_m_Model_says) (As := [.ref 55, .int (iN ((48) + ((zv) % (10))))]) (rest := []) (kr1 := (78, 76)) rfl (jm_says (zl := zl ++ zDg (zv / 10)) (zc := (48) + ((zv) % (10))) _ (by omega) q_p1 (by have y_l := (zDg_l (v := zv / 10)).1; rw [List.length_append]; omega)) ?_
    rintro _ zg2 ⟨rfl, q_f2, q_s2, q_p2⟩
    refine wp_ret (rv := none) rfl ?_
    exact ⟨rfl, am_fr_t q_f1 q_f2, fun zs y => (q_s2 zs y).trans (q_s1 zs y), by rw [zDg_s (by omega), ← List.append_assoc]; exact q_p2⟩
set_option maxRecDepth 20000 in
set_option maxHeartbeats 4000000 in
theorem jl_says3 (zd : Nat) (q_d : 3 ≤ zd) {zh : am_H} {zl : List Int} {zv : Int} (q_p : zPr 73 55 31 zh zl) (q_n : zl.length + 8 ≤ 320) (q_v : 0 ≤ zv ∧ zv < 1000) : am_wp zd am_m_Model_saysNumber 0 [(0, .ref 55), (1, .int (iN (zv)))] [] (78, 76) zh (78, 76) (fun rv h' => rv = none ∧ am_fr [55, 73] zh h' ∧ (∀ zs : Nat, zs ≠ 31 → h'.1 55 zs = zh.1 55 zs) ∧ zPr 73 55 31 h' (zl ++ zDg zv)) := by
  obtain ⟨zd, rfl⟩ : ∃ y_e, zd = y_e + 3 := ⟨zd - 3, by omega⟩
  refine wp_run (k := 2) (pc1 := 3) (l1 := [(0, .ref 55), (1, .int (iN (zv)))]) (st1 := [.int (iN (9)), .int (iN (zv))]) (kr1 := (78, 76)) (h1 := zh) rfl ?_
  refine wp_le (a := zv) (b := 9) rfl (by omega) (by omega) (fun b_3 => ?_) (fun b_3 => ?_)
  · refine wp_run (k := 4) (pc1 := 20) (l1 := [(0, .ref 55), (1, .int (iN (zv)))]) (st1 := [.int (iN (10)), .int (iN (zv)), .int (iN (48)), .ref 55]) (kr1 := (78, 76)) (h1 := zh) rfl ?_
    refine wp_remn (a := zv) (b := 10) rfl (by omega) (by omega) ?_
    refine wp_run (k := 1) (pc1 := 22) (l1 := [(0, .ref 55), (1, .int (iN (zv)))]) (st1 := [.int (iN ((48) + ((zv) % (10)))), .ref 55]) (kr1 := (78, 76)) (h1 := zh) (Eq.trans (b := (some (22, [(0, .ref 55), (1, .int (iN (zv)))], [.int ((iN (48)) + (iN ((zv) % (10)))), .ref 55], (78, 76), zh) : Option am_C)) rfl (by simp only [Int32.ofInt_add, Int32.ofInt_sub, Int32.ofInt_mul, Int32.ofInt_neg])) ?_
    refine wp_call (md1 := am_m_Model_says) (As := [.ref 55, .int (iN ((48) + ((zv) % (10))))]) (rest := []) (kr1 := (78, 76)) rfl (jm_says (zl := zl) (zc := (48) + ((zv) % (10))) _ (by omega) q_p (by omega)) ?_
    rintro _ zg2 ⟨rfl, q_f2, q_s2, q_p2⟩
    refine wp_ret (rv := none) rfl ?_
    have y_v : zDg zv = [48 + zv % 10] := by unfold zDg; rw [if_pos (by omega), show zv % 10 = zv by omega]
    exact ⟨rfl, q_f2, q_s2, by rw [y_v]; exact q_p2⟩
  · refine wp_run (k := 3) (pc1 := 10) (l1 := [(0, .ref 55), (1, .int (iN (zv)))]) (st1 := [.int (iN (10)), .int (iN (zv)), .ref 55]) (kr1 := (78, 76)) (h1 := zh) rfl ?_
    refine wp_divn (a := zv) (b := 10) rfl (by omega) (by omega) ?_
    refine wp_call (md1 := am_m_Model_saysNumber) (As := [.ref 55, .int (iN ((zv) / (10)))]) (rest := []) (kr1 := (78, 76)) rfl (jl_says2 _ (by omega) (zl := zl) (zv := (zv) / (10)) q_p (by omega) (by omega)) ?_
    rintro _ zg1 ⟨rfl, q_f1, q_s1, q_p1⟩
    refine wp_run (k := 4) (pc1 := 20) (l1 := [(0, .ref 55), (1, .int (iN (zv)))]) (st1 := [.int (iN (10)), .int (iN (zv)), .int (iN (48)), .ref 55]) (kr1 := (78, 76)) (h1 := zg1) rfl ?_
    refine wp_remn (a := zv) (b := 10) rfl (by omega) (by omega) ?_
    refine wp_run (k := 1) (pc1 := 22) (l1 := [(0, .ref 55), (1, .int (iN (zv)))]) (st1 := [.int (iN ((48) + ((zv) % (10)))), .ref 55]) (kr1 := (78, 76)) (h1 := zg1) (Eq.trans (b := (some (22, [(0, .ref 55), (1, .int (iN (zv)))], [.int ((iN (48)) + (iN ((zv) % (10)))), .ref 55], (78, 76), zg1) : Option am_C)) rfl (by simp only [Int32.ofInt_add, Int32.ofInt_sub, Int32.ofInt_mul, Int32.ofInt_neg])) ?_
    refine wp_call (md1 := am_m_Model_says) (As := [.ref 55, .int (iN ((48) + ((zv) % (10))))]) (rest := []) (kr1 := (78, 76)) rfl (jm_says (zl := zl ++ zDg (zv / 10)) (zc := (48) + ((zv) % (10))) _ (by omega) q_p1 (by have y_l := (zDg_l (v := zv / 10)).1; rw [List.length_append]; omega)) ?_
    rintro _ zg2 ⟨rfl, q_f2, q_s2, q_p2⟩
    refine wp_ret (rv := none) rfl ?_
    exact ⟨rfl, am_fr_t q_f1 q_f2, fun zs y => (q_s2 zs y).trans (q_s1 zs y), by rw [zDg_s (by omega), ← List.append_assoc]; exact q_p2⟩
set_option maxRecDepth 20000 in
set_option maxHeartbeats 4000000 in
theorem jl_says4 (zd : Nat) (q_d : 4 ≤ zd) {zh : am_H} {zl : List Int} {zv : Int} (q_p : zPr 73 55 31 zh zl) (q_n : zl.length + 8 ≤ 320) (q_v : 0 ≤ zv ∧ zv < 10000) : am_wp zd am_m_Model_saysNumber 0 [(0, .ref 55), (1, .int (iN (zv)))] [] (78, 76) zh (78, 76) (fun rv h' => rv = none ∧ am_fr [55, 73] zh h' ∧ (∀ zs : Nat, zs ≠ 31 → h'.1 55 zs = zh.1 55 zs) ∧ zPr 73 55 31 h' (zl ++ zDg zv)) := by
  obtain ⟨zd, rfl⟩ : ∃ y_e, zd = y_e + 4 := ⟨zd - 4, by omega⟩
  refine wp_run (k := 2) (pc1 := 3) (l1 := [(0, .ref 55), (1, .int (iN (zv)))]) (st1 := [.int (iN (9)), .int (iN (zv))]) (kr1 := (78, 76)) (h1 := zh) rfl ?_
  refine wp_le (a := zv) (b := 9) rfl (by omega) (by omega) (fun b_3 => ?_) (fun b_3 => ?_)
  · refine wp_run (k := 4) (pc1 := 20) (l1 := [(0, .ref 55), (1, .int (iN (zv)))]) (st1 := [.int (iN (10)), .int (iN (zv)), .int (iN (48)), .ref 55]) (kr1 := (78, 76)) (h1 := zh) rfl ?_
    refine wp_remn (a := zv) (b := 10) rfl (by omega) (by omega) ?_
    refine wp_run (k := 1) (pc1 := 22) (l1 := [(0, .ref 55), (1, .int (iN (zv)))]) (st1 := [.int (iN ((48) + ((zv) % (10)))), .ref 55]) (kr1 := (78, 76)) (h1 := zh) (Eq.trans (b := (some (22, [(0, .ref 55), (1, .int (iN (zv)))], [.int ((iN (48)) + (iN ((zv) % (10)))), .ref 55], (78, 76), zh) : Option am_C)) rfl (by simp only [Int32.ofInt_add, Int32.ofInt_sub, Int32.ofInt_mul, Int32.ofInt_neg])) ?_
    refine wp_call (md1 := am_m_Model_says) (As := [.ref 55, .int (iN ((48) + ((zv) % (10))))]) (rest := []) (kr1 := (78, 76)) rfl (jm_says (zl := zl) (zc := (48) + ((zv) % (10))) _ (by omega) q_p (by omega)) ?_
    rintro _ zg2 ⟨rfl, q_f2, q_s2, q_p2⟩
    refine wp_ret (rv := none) rfl ?_
    have y_v : zDg zv = [48 + zv % 10] := by unfold zDg; rw [if_pos (by omega), show zv % 10 = zv by omega]
    exact ⟨rfl, q_f2, q_s2, by rw [y_v]; exact q_p2⟩
  · refine wp_run (k := 3) (pc1 := 10) (l1 := [(0, .ref 55), (1, .int (iN (zv)))]) (st1 := [.int (iN (10)), .int (iN (zv)), .ref 55]) (kr1 := (78, 76)) (h1 := zh) rfl ?_
    refine wp_divn (a := zv) (b := 10) rfl (by omega) (by omega) ?_
    refine wp_call (md1 := am_m_Model_saysNumber) (As := [.ref 55, .int (iN ((zv) / (10)))]) (rest := []) (kr1 := (78, 76)) rfl (jl_says3 _ (by omega) (zl := zl) (zv := (zv) / (10)) q_p (by omega) (by omega)) ?_
    rintro _ zg1 ⟨rfl, q_f1, q_s1, q_p1⟩
    refine wp_run (k := 4) (pc1 := 20) (l1 := [(0, .ref 55), (1, .int (iN (zv)))]) (st1 := [.int (iN (10)), .int (iN (zv)), .int (iN (48)), .ref 55]) (kr1 := (78, 76)) (h1 := zg1) rfl ?_
    refine wp_remn (a := zv) (b := 10) rfl (by omega) (by omega) ?_
    refine wp_run (k := 1) (pc1 := 22) (l1 := [(0, .ref 55), (1, .int (iN (zv)))]) (st1 := [.int (iN ((48) + ((zv) % (10)))), .ref 55]) (kr1 := (78, 76)) (h1 := zg1) (Eq.trans (b := (some (22, [(0, .ref 55), (1, .int (iN (zv)))], [.int ((iN (48)) + (iN ((zv) % (10)))), .ref 55], (78, 76), zg1) : Option am_C)) rfl (by simp only [Int32.ofInt_add, Int32.ofInt_sub, Int32.ofInt_mul, Int32.ofInt_neg])) ?_
    refine wp_call (md1 := am_m_Model_says) (As := [.ref 55, .int (iN ((48) + ((zv) % (10))))]) (rest := []) (kr1 := (78, 76)) rfl (jm_says (zl := zl ++ zDg (zv / 10)) (zc := (48) + ((zv) % (10))) _ (by omega) q_p1 (by have y_l := (zDg_l (v := zv / 10)).1; rw [List.length_append]; omega)) ?_
    rintro _ zg2 ⟨rfl, q_f2, q_s2, q_p2⟩
    refine wp_ret (rv := none) rfl ?_
    exact ⟨rfl, am_fr_t q_f1 q_f2, fun zs y => (q_s2 zs y).trans (q_s1 zs y), by rw [zDg_s (by omega), ← List.append_assoc]; exact q_p2⟩
