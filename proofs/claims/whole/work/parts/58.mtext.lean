/-! TEXTS THAT ARE READ: the reference's clause -/
/-- at, fault, figure of the reference -/
def zS3 (zh : am_H) (x f g : Int) : am_H := am_wr (am_wr (am_wr zh 55 8 (iN x)) 55 10 (iN f)) 55 11 (iN g)
theorem am_wr_sw2 (zh : am_H) {zc zi zj : Nat} (q : zi ≠ zj) (zu zv : Int32) : am_wr (am_wr zh zc zi zu) zc zj zv = am_wr (am_wr zh zc zj zv) zc zi zu := by
  refine Prod.ext ?_ rfl
  funext x y
  show (if x = zc ∧ y = zj then zv else (if x = zc ∧ y = zi then zu else zh.1 x y)) = (if x = zc ∧ y = zi then zu else (if x = zc ∧ y = zj then zv else zh.1 x y))
  by_cases q1 : x = zc ∧ y = zj
  · rw [if_pos q1, if_neg (fun z => q (z.2.symm.trans q1.2)), if_pos q1]
  · rw [if_neg q1, if_neg q1]
theorem zS3_8 (zh : am_H) (x f g y : Int) : am_wr (zS3 zh x f g) 55 8 (iN y) = zS3 zh y f g := by
  unfold zS3
  rw [am_wr_sw2 _ (show 11 ≠ 8 by decide), am_wr_sw2 _ (show 10 ≠ 8 by decide), am_wr_wr]
theorem zS3_10 (zh : am_H) (x f g y : Int) : am_wr (zS3 zh x f g) 55 10 (iN y) = zS3 zh x y g := by
  unfold zS3
  rw [am_wr_sw2 _ (show 11 ≠ 10 by decide), am_wr_wr]
theorem zS3_11 (zh : am_H) (x f g y : Int) : am_wr (zS3 zh x f g) 55 11 (iN y) = zS3 zh x f y := by
  unfold zS3
  rw [am_wr_wr]
theorem zS3_a (zh : am_H) (x f g : Int) : (zS3 zh x f g).1 55 8 = iN x ∧ (zS3 zh x f g).1 55 10 = iN f ∧ (zS3 zh x f g).1 55 11 = iN g := by
  unfold zS3
  refine ⟨?_, ?_, am_wr_at⟩
  · rw [am_wr_no (by decide), am_wr_no (by decide), am_wr_at]
  · rw [am_wr_no (by decide), am_wr_at]
theorem zS3_s (zh : am_H) (x f g : Int) {k : Nat} (q1 : k ≠ 8) (q2 : k ≠ 10) (q3 : k ≠ 11) : (zS3 zh x f g).1 55 k = zh.1 55 k := by
  unfold zS3
  rw [am_wr_no q3, am_wr_no q2, am_wr_no q1]
theorem zS3_c (zh : am_H) (x f g : Int) {c : Nat} (q : c ≠ 55) : (zS3 zh x f g).1 c = zh.1 c := by
  unfold zS3
  rw [am_wr_ne q, am_wr_ne q, am_wr_ne q]
theorem zS3_w (zh : am_H) (x f g : Int) {c : Nat} (q : 55 ≠ c) (j : Nat) (v : Int32) : am_wr (zS3 zh x f g) c j v = zS3 (am_wr zh c j v) x f g := by
  unfold zS3
  rw [am_wr_sw _ q, am_wr_sw _ q, am_wr_sw _ q]
theorem zS3_0 (zh : am_H) {x f : Int} (q1 : zh.1 55 8 = iN x) (q2 : zh.1 55 10 = iN f) : zh = zS3 zh x f (zh.1 55 11).toInt := by
  unfold zS3
  rw [iN_self, ← q1, am_wr_id, ← q2, am_wr_id, am_wr_id]
theorem zMt_u {F : Int → Int} {i j : Int} {w w' : Nat} (q1 : w < 6) (q2 : w' < 6) (q : zMt F w i j) (q' : zMt F w' i j) : w = w' := by
  have y : ∀ v : Nat, v < 6 → 0 < (zWl v).length := by decide
  have y1 := q.2 0 (y w q1)
  have y2 := q'.2 0 (y w' q2)
  have y3 : ∀ a : Nat, a < 6 → ∀ b : Nat, b < 6 → zWb a 0 = zWb b 0 → a = b := by decide
  exact y3 w q1 w' q2 (y1.symm.trans y2)
theorem jm_hereS (zd : Nat) {zh : am_H} {F : Int → Int} {zl zi zf zg : Int} (q_ln : zh.1 55 9 = iN zl) (q_r : 0 ≤ zl ∧ zl ≤ 120) (q_f : ∀ k : Int, 0 ≤ k → k < zl → zh.1 59 k.toNat = iN (F k)) (q_i : 0 ≤ zi ∧ zi ≤ zl) : am_wp zd am_m_Model_here 0 [(0, .ref 55)] [] (78, 76) (zS3 zh zi zf zg) (78, 76) (fun rv h' => rv = some (.int (iN (zSg F zl zi))) ∧ zS3 zh zi zf zg = h') := by
  refine wp_con (jm_here zd (Nat.zero_le _) (F := F) (zi := zi) (zl := zl) (zS3_a _ _ _ _).1 ((zS3_s _ _ _ _ (by decide) (by decide) (by decide)).trans q_ln) (by omega) (fun k y1 y2 => (congrFun (zS3_c _ _ _ _ (by decide)) _).trans (q_f k y1 y2))) (fun rv h' q => ⟨?_, q.2⟩)
  rw [q.1]
  unfold zSg
  by_cases y : zi < zl
  · rw [if_pos y, if_pos ⟨q_i.1, y⟩]
  · rw [if_neg y, if_neg (fun z => y z.2)]
theorem jm_digitS (zd : Nat) (q_d : 1 ≤ zd) {zh : am_H} {F : Int → Int} {zl zi zf zg : Int} (q_ln : zh.1 55 9 = iN zl) (q_r : 0 ≤ zl ∧ zl ≤ 120) (q_f : ∀ k : Int, 0 ≤ k → k < zl → zh.1 59 k.toNat = iN (F k)) (q_c : ∀ k : Int, 0 ≤ k → k < zl → 32 ≤ F k ∧ F k ≤ 126) (q_i : 0 ≤ zi ∧ zi ≤ zl) : am_wp zd am_m_Model_isDigit 0 [(0, .ref 55)] [] (78, 76) (zS3 zh zi zf zg) (78, 76) (fun rv h' => rv = some (.int (iN (bI (48 ≤ zSg F zl zi ∧ zSg F zl zi ≤ 57) inferInstance))) ∧ zS3 zh zi zf zg = h') := by
  refine wp_con (jm_isDigit zd q_d (F := F) (zi := zi) (zl := zl) (zS3_a _ _ _ _).1 ((zS3_s _ _ _ _ (by decide) (by decide) (by decide)).trans q_ln) (by omega) (fun k y1 y2 => (congrFun (zS3_c _ _ _ _ (by decide)) _).trans (q_f k y1 y2)) q_c) (fun rv h' q => ⟨?_, q.2⟩)
  rw [q.1]
  have y_e : (if zi < zl then F zi else -1) = zSg F zl zi := by
    unfold zSg
    by_cases y : zi < zl
    · rw [if_pos y, if_pos ⟨q_i.1, y⟩]
    · rw [if_neg y, if_neg (fun z => y z.2)]
  rw [bI_iff _ inferInstance (by rw [y_e])]
set_option maxRecDepth 20000 in
set_option maxHeartbeats 4000000 in
theorem jm_fails (zd : Nat) (q_d : 0 ≤ zd) {zh : am_H} {zx zp zg : Int}  : am_wp zd am_m_Model_fails 0 [(0, .ref 55), (1, .int (iN (zp)))] [] (78, 76) (zS3 zh zx (-1) zg) (78, 76) (fun rv h' => rv = some (.int (iN 0)) ∧ zS3 zh zx zp zg = h') := by
  obtain ⟨zd, rfl⟩ : ∃ y_e, zd = y_e + 0 := ⟨zd - 0, by omega⟩
  refine wp_run (k := 2) (pc1 := 4) (l1 := [(0, .ref 55), (1, .int (iN (zp)))]) (st1 := [.int (iN (-1))]) (kr1 := (78, 76)) (h1 := zS3 zh zx (-1) zg) (Eq.trans (b := (some (4, [(0, .ref 55), (1, .int (iN (zp)))], [.int ((zS3 zh zx (-1) zg).1 55 10)], (78, 76), zS3 zh zx (-1) zg) : Option am_C)) rfl (by simp only [(show (zS3 zh zx (-1) zg).1 55 10 = iN (-1) from (zS3_a _ _ _ _).2.1), Int32.ofInt_add, Int32.ofInt_sub, Int32.ofInt_mul, Int32.ofInt_neg])) ?_
  refine wp_ge0 (a := -1) rfl (by omega) (fun b_4 => ?_) (fun b_4 => ?_)
  · exact absurd b_4 (by decide)
  · refine wp_run (k := 4) (pc1 := 13) (l1 := [(0, .ref 55), (1, .int (iN (zp)))]) (st1 := [.int (iN (0))]) (kr1 := (78, 76)) (h1 := am_wr (zS3 zh zx (-1) zg) 55 10 (iN (zp))) rfl ?_
    refine wp_ret (rv := some (.int (iN (0)))) rfl ?_
    exact ⟨rfl, (zS3_10 zh zx (-1) zg zp).symm.trans rfl⟩
set_option maxRecDepth 20000 in
set_option maxHeartbeats 4000000 in
theorem jm_isSign (zd : Nat) (q_d : 1 ≤ zd) {zh : am_H} {F : Int → Int} {zl : Int} {zi zg zc : Int} (q_ln : zh.1 55 9 = iN zl) (q_r : 0 ≤ zl ∧ zl ≤ 120) (q_f : ∀ k : Int, 0 ≤ k → k < zl → zh.1 59 k.toNat = iN (F k)) (q_c : ∀ k : Int, 0 ≤ k → k < zl → 32 ≤ F k ∧ F k ≤ 126) (q_i : 0 ≤ zi ∧ zi ≤ zl) (q_cc : 0 ≤ zc ∧ zc ≤ 127) : am_wp zd am_m_Model_isSign 0 [(0, .ref 55), (1, .int (iN (zc)))] [] (78, 76) (zS3 zh zi (-1) zg) (78, 76) (fun rv h' => rv = some (.int (iN (bI (zSg F zl zi = zc) inferInstance))) ∧ (zSg F zl zi = zc → zS3 zh (zi + 1) (-1) zg = h') ∧ (¬ zSg F zl zi = zc → zS3 zh zi zi zg = h')) := by
  obtain ⟨zd, rfl⟩ : ∃ y_e, zd = y_e + 1 := ⟨zd - 1, by omega⟩
  have y_s := zSg_rg (i := zi) q_c
  refine wp_run (k := 1) (pc1 := 1) (l1 := [(0, .ref 55), (1, .int (iN (zc)))]) (st1 := [.ref 55]) (kr1 := (78, 76)) (h1 := zS3 zh zi (-1) zg) rfl ?_
  refine wp_call (md1 := am_m_Model_here) (As := [.ref 55]) (rest := []) (kr1 := (78, 76)) rfl (jm_hereS _ (F := F) (zl := zl) (zi := zi) q_ln q_r q_f (by omega)) ?_
  rintro _ _ ⟨rfl, rfl⟩
  refine wp_run (k := 1) (pc1 := 5) (l1 := [(0, .ref 55), (1, .int (iN (zc)))]) (st1 := [.int (iN (zc)), .int (iN (zSg F zl (zi)))]) (kr1 := (78, 76)) (h1 := zS3 zh zi (-1) zg) rfl ?_
  refine wp_eq (a := zSg F zl (zi)) (b := zc) rfl (by omega) (by omega) (fun b_5 => ?_) (fun b_5 => ?_)
  · refine wp_run (k := 5) (pc1 := 24) (l1 := [(0, .ref 55), (1, .int (iN (zc)))]) (st1 := [.int (iN ((zi) + (1))), .ref 55]) (kr1 := (78, 76)) (h1 := zS3 zh zi (-1) zg) (Eq.trans (b := (some (24, [(0, .ref 55), (1, .int (iN (zc)))], [.int (((zS3 zh zi (-1) zg).1 55 8) + (iN (1))), .ref 55], (78, 76), zS3 zh zi (-1) zg) : Option am_C)) rfl (by simp only [(show (zS3 zh zi (-1) zg).1 55 8 = iN (zi) from (zS3_a _ _ _ _).1), Int32.ofInt_add, Int32.ofInt_sub, Int32.ofInt_mul, Int32.ofInt_neg])) ?_
    refine wp_run (k := 2) (pc1 := 28) (l1 := [(0, .ref 55), (1, .int (iN (zc)))]) (st1 := [.int (iN (1))]) (kr1 := (78, 76)) (h1 := am_wr (zS3 zh zi (-1) zg) 55 8 (iN ((zi) + (1)))) rfl ?_
    refine wp_ret (rv := some (.int (iN (1)))) rfl ?_
    exact ⟨by rw [show bI (zSg F zl zi = zc) inferInstance = 1 from if_pos (by omega)], fun _ => (zS3_8 _ _ _ _ _).symm, fun y => absurd (by omega) y⟩
  · refine wp_run (k := 3) (pc1 := 13) (l1 := [(0, .ref 55), (1, .int (iN (zc)))]) (st1 := [.int (iN (zi)), .ref 55]) (kr1 := (78, 76)) (h1 := zS3 zh zi (-1) zg) (Eq.trans (b := (some (13, [(0, .ref 55), (1, .int (iN (zc)))], [.int ((zS3 zh zi (-1) zg).1 55 8), .ref 55], (78, 76), zS3 zh zi (-1) zg) : Option am_C)) rfl (by simp only [(show (zS3 zh zi (-1) zg).1 55 8 = iN (zi) from (zS3_a _ _ _ _).1), Int32.ofInt_add, Int32.ofInt_sub, Int32.ofInt_mul, Int32.ofInt_neg])) ?_
    refine wp_call (md1 := am_m_Model_fails) (As := [.ref 55, .int (iN (zi))]) (rest := []) (kr1 := (78, 76)) rfl (jm_fails _ (by omega) (zh := zh) (zx := zi) (zp := zi) (zg := zg)) ?_
    rintro _ _ ⟨rfl, rfl⟩
    refine wp_ret (rv := some (.int (iN (0)))) rfl ?_
    exact ⟨by rw [show bI (zSg F zl zi = zc) inferInstance = 0 from if_neg (by omega)], fun y => absurd y (by omega), fun _ => rfl⟩
set_option maxRecDepth 20000 in
set_option maxHeartbeats 4000000 in
theorem jl_isWord_0 (zd : Nat) (q_d : 4 ≤ zd) {zh : am_H} {F : Int → Int} {zl : Int} {zi zb zg : Int} (q_ln : zh.1 55 9 = iN zl) (q_r : 0 ≤ zl ∧ zl ≤ 120) (q_f : ∀ k : Int, 0 ≤ k → k < zl → zh.1 59 k.toNat = iN (F k)) (q_c : ∀ k : Int, 0 ≤ k → k < zl → 32 ≤ F k ∧ F k ≤ 126) (q_i : 0 ≤ zb ∧ zi ≤ zl) (q_e : zi - zb = 6) {zQ : Option Value → am_H → Prop} (zk : ∀ zv : Int, zv = bI (zMt F 0 zb zi) (Classical.propDecidable _) → zQ (some (.int (iN zv))) (zS3 zh zi (-1) zg)) : ∀ (z_n : Nat) (zn : Nat) (q_n : zn ≤ 6) (q_w : ∀ k : Nat, k < zn → F (zb + (k : Int)) = zWb 0 k), (6 : Int) - zn < (z_n : Int) → am_wp zd am_m_Model_isWord 22 [(0, .ref 55), (1, .int (iN (zb))), (2, .ref 1006), (3, .int (iN (1))), (4, .int (iN ((zn : Int))))] [] (78, 76) (zS3 zh zi (-1) zg) (78, 76) zQ := by
  obtain ⟨zd, rfl⟩ : ∃ y_e, zd = y_e + 4 := ⟨zd - 4, by omega⟩
  intro z_n
  induction z_n with
  | zero => intro zn q_n q_w q_m; omega
  | succ z_n z_ih =>
    intro zn q_n q_w q_m
    refine wp_run (k := 2) (pc1 := 25) (l1 := [(0, .ref 55), (1, .int (iN (zb))), (2, .ref 1006), (3, .int (iN (1))), (4, .int (iN ((zn : Int))))]) (st1 := [.ref 1006, .int (iN ((zn : Int)))]) (kr1 := (78, 76)) (h1 := zS3 zh zi (-1) zg) rfl ?_
    refine wp_call (md1 := am_m_String_length) (As := [.ref 1006]) (rest := [.int (iN ((zn : Int)))]) (kr1 := (78, 76)) rfl (js_len_6 _ (by omega)) ?_
    rintro _ _ ⟨rfl, rfl⟩
    refine wp_ge (a := (zn : Int)) (b := 6) rfl (by omega) (by omega) (fun b_28 => ?_) (fun b_28 => ?_)
    · refine wp_run (k := 1) (pc1 := 66) (l1 := [(0, .ref 55), (1, .int (iN (zb))), (2, .ref 1006), (3, .int (iN (1))), (4, .int (iN ((zn : Int))))]) (st1 := [.int (iN (1))]) (kr1 := (78, 76)) (h1 := zS3 zh zi (-1) zg) rfl ?_
      refine wp_ret (rv := some (.int (iN (1)))) rfl ?_
      exact zk _ (if_pos ⟨by show zi - zb = 6; omega, fun k y => q_w k (by have y1 : k < 6 := y; omega)⟩).symm
    · refine wp_run (k := 1) (pc1 := 32) (l1 := [(0, .ref 55), (1, .int (iN (zb))), (2, .ref 1006), (3, .int (iN (1))), (4, .int (iN ((zn : Int))))]) (st1 := [.int (iN (1))]) (kr1 := (78, 76)) (h1 := zS3 zh zi (-1) zg) rfl ?_
      refine wp_eq0 (a := 1) rfl (by omega) (fun b_32 => ?_) (fun b_32 => ?_)
      · exact absurd b_32 (by decide)
      · have y_b := zWb_rg 0 zn
        have y_c := q_c (zb + (zn : Int)) (by omega) (by omega)
        refine wp_run (k := 5) (pc1 := 43) (l1 := [(0, .ref 55), (1, .int (iN (zb))), (2, .ref 1006), (3, .int (iN (1))), (4, .int (iN ((zn : Int))))]) (st1 := [.int (iN ((zb) + ((zn : Int)))), .ref 59]) (kr1 := (78, 76)) (h1 := zS3 zh zi (-1) zg) (Eq.trans (b := (some (43, [(0, .ref 55), (1, .int (iN (zb))), (2, .ref 1006), (3, .int (iN (1))), (4, .int (iN ((zn : Int))))], [.int ((iN (zb)) + (iN ((zn : Int)))), .ref 59], (78, 76), zS3 zh zi (-1) zg) : Option am_C)) rfl (by simp only [Int32.ofInt_add, Int32.ofInt_sub, Int32.ofInt_mul, Int32.ofInt_neg])) ?_
        refine wp_iald (f := (zS3 zh zi (-1) zg).1 59) (z := (zb) + ((zn : Int))) (j := (zb + (zn : Int)).toNat) (n := 120) (v := iN (F (zb + (zn : Int)))) rfl rfl (by omega) (by omega) (by decide) ((congrFun (zS3_c _ _ _ _ (by decide)) _).trans (q_f (zb + (zn : Int)) (by omega) (by omega))) ?_
        refine wp_run (k := 2) (pc1 := 47) (l1 := [(0, .ref 55), (1, .int (iN (zb))), (2, .ref 1006), (3, .int (iN (1))), (4, .int (iN ((zn : Int))))]) (st1 := [.int (iN ((zn : Int))), .ref 1006, .int (iN (F (zb + (zn : Int))))]) (kr1 := (78, 76)) (h1 := zS3 zh zi (-1) zg) rfl ?_
        refine wp_call (md1 := am_m_String_charAt) (As := [.ref 1006, .int (iN ((zn : Int)))]) (rest := [.int (iN (F (zb + (zn : Int))))]) (kr1 := (78, 76)) rfl (js_at_6 _ (by omega) (zi := zn) (by omega)) ?_
        rintro _ _ ⟨rfl, rfl⟩
        refine wp_ne (a := F (zb + (zn : Int))) (b := zWb 0 zn) rfl (by omega) (by omega) (fun b_50 => ?_) (fun b_50 => ?_)
        · refine wp_run (k := 4) (pc1 := 22) (l1 := [(0, .ref 55), (1, .int (iN (zb))), (2, .ref 1006), (3, .int (iN (0))), (4, .int (iN (((zn : Int)) + 1)))]) (st1 := []) (kr1 := (78, 76)) (h1 := zS3 zh zi (-1) zg) (Eq.trans (b := (some (22, [(0, .ref 55), (1, .int (iN (zb))), (2, .ref 1006), (3, .int (iN (0))), (4, .int ((iN ((zn : Int))) + iN (1)))], [], (78, 76), zS3 zh zi (-1) zg) : Option am_C)) rfl (by simp only [Int32.ofInt_add, Int32.ofInt_sub, Int32.ofInt_mul, Int32.ofInt_neg])) ?_
          refine wp_run (k := 2) (pc1 := 25) (l1 := [(0, .ref 55), (1, .int (iN (zb))), (2, .ref 1006), (3, .int (iN (0))), (4, .int (iN (((zn : Int)) + 1)))]) (st1 := [.ref 1006, .int (iN (((zn : Int)) + 1))]) (kr1 := (78, 76)) (h1 := zS3 zh zi (-1) zg) rfl ?_
          refine wp_call (md1 := am_m_String_length) (As := [.ref 1006]) (rest := [.int (iN (((zn : Int)) + 1))]) (kr1 := (78, 76)) rfl (js_len_6 _ (by omega)) ?_
          rintro _ _ ⟨rfl, rfl⟩
          refine wp_ge (a := ((zn : Int)) + 1) (b := 6) rfl (by omega) (by omega) (fun b_28 => ?_) (fun b_28 => ?_)
          · refine wp_run (k := 1) (pc1 := 66) (l1 := [(0, .ref 55), (1, .int (iN (zb))), (2, .ref 1006), (3, .int (iN (0))), (4, .int (iN (((zn : Int)) + 1)))]) (st1 := [.int (iN (0))]) (kr1 := (78, 76)) (h1 := zS3 zh zi (-1) zg) rfl ?_
            refine wp_ret (rv := some (.int (iN (0)))) rfl ?_
            exact zk _ (if_neg (fun y => by have y1 := y.2 zn (by show zn < 6; omega); omega)).symm
          · refine wp_run (k := 1) (pc1 := 32) (l1 := [(0, .ref 55), (1, .int (iN (zb))), (2, .ref 1006), (3, .int (iN (0))), (4, .int (iN (((zn : Int)) + 1)))]) (st1 := [.int (iN (0))]) (kr1 := (78, 76)) (h1 := zS3 zh zi (-1) zg) rfl ?_
            refine wp_eq0 (a := 0) rfl (by omega) (fun b_32 => ?_) (fun b_32 => ?_)
            · refine wp_run (k := 1) (pc1 := 66) (l1 := [(0, .ref 55), (1, .int (iN (zb))), (2, .ref 1006), (3, .int (iN (0))), (4, .int (iN (((zn : Int)) + 1)))]) (st1 := [.int (iN (0))]) (kr1 := (78, 76)) (h1 := zS3 zh zi (-1) zg) rfl ?_
              refine wp_ret (rv := some (.int (iN (0)))) rfl ?_
              exact zk _ (if_neg (fun y => by have y1 := y.2 zn (by show zn < 6; omega); omega)).symm
            · exact absurd b_32 (by decide)
        · refine wp_run (k := 5) (pc1 := 22) (l1 := [(0, .ref 55), (1, .int (iN (zb))), (2, .ref 1006), (3, .int (iN (1))), (4, .int (iN (((zn : Int)) + 1)))]) (st1 := []) (kr1 := (78, 76)) (h1 := zS3 zh zi (-1) zg) (Eq.trans (b := (some (22, [(0, .ref 55), (1, .int (iN (zb))), (2, .ref 1006), (3, .int (iN (1))), (4, .int ((iN ((zn : Int))) + iN (1)))], [], (78, 76), zS3 zh zi (-1) zg) : Option am_C)) rfl (by simp only [Int32.ofInt_add, Int32.ofInt_sub, Int32.ofInt_mul, Int32.ofInt_neg])) ?_
          refine z_ih (zn + 1) (by omega) (fun k y => ?_) (by omega)
          by_cases y1 : k = zn
          · rw [y1]; omega
          · exact q_w k (by omega)
set_option maxRecDepth 20000 in
set_option maxHeartbeats 4000000 in
theorem jm_isWord_0 (zd : Nat) (q_d : 4 ≤ zd) {zh : am_H} {F : Int → Int} {zl : Int} {zi zb zg : Int} (q_ln : zh.1 55 9 = iN zl) (q_r : 0 ≤ zl ∧ zl ≤ 120) (q_f : ∀ k : Int, 0 ≤ k → k < zl → zh.1 59 k.toNat = iN (F k)) (q_c : ∀ k : Int, 0 ≤ k → k < zl → 32 ≤ F k ∧ F k ≤ 126) (q_i : 0 ≤ zb ∧ zb ≤ zi ∧ zi ≤ zl) : am_wp zd am_m_Model_isWord 0 [(0, .ref 55), (1, .int (iN (zb))), (2, .ref 1006)] [] (78, 76) (zS3 zh zi (-1) zg) (78, 76) (fun rv h' => rv = some (.int (iN (bI (zMt F 0 zb zi) (Classical.propDecidable _)))) ∧ zS3 zh zi (-1) zg = h') := by
  obtain ⟨zd, rfl⟩ : ∃ y_e, zd = y_e + 4 := ⟨zd - 4, by omega⟩
  refine wp_run (k := 5) (pc1 := 7) (l1 := [(0, .ref 55), (1, .int (iN (zb))), (2, .ref 1006)]) (st1 := [.ref 1006, .int (iN ((zi) - (zb)))]) (kr1 := (78, 76)) (h1 := zS3 zh zi (-1) zg) (Eq.trans (b := (some (7, [(0, .ref 55), (1, .int (iN (zb))), (2, .ref 1006)], [.ref 1006, .int (((zS3 zh zi (-1) zg).1 55 8) - (iN (zb)))], (78, 76), zS3 zh zi (-1) zg) : Option am_C)) rfl (by simp only [(show (zS3 zh zi (-1) zg).1 55 8 = iN (zi) from (zS3_a _ _ _ _).1), Int32.ofInt_add, Int32.ofInt_sub, Int32.ofInt_mul, Int32.ofInt_neg])) ?_
  refine wp_call (md1 := am_m_String_length) (As := [.ref 1006]) (rest := [.int (iN ((zi) - (zb)))]) (kr1 := (78, 76)) rfl (js_len_6 _ (by omega)) ?_
  rintro _ _ ⟨rfl, rfl⟩
  refine wp_ne (a := (zi) - (zb)) (b := 6) rfl (by omega) (by omega) (fun b_10 => ?_) (fun b_10 => ?_)
  · refine wp_run (k := 4) (pc1 := 22) (l1 := [(0, .ref 55), (1, .int (iN (zb))), (2, .ref 1006), (3, .int (iN (0))), (4, .int (iN (0)))]) (st1 := []) (kr1 := (78, 76)) (h1 := zS3 zh zi (-1) zg) rfl ?_
    refine wp_run (k := 2) (pc1 := 25) (l1 := [(0, .ref 55), (1, .int (iN (zb))), (2, .ref 1006), (3, .int (iN (0))), (4, .int (iN (0)))]) (st1 := [.ref 1006, .int (iN (0))]) (kr1 := (78, 76)) (h1 := zS3 zh zi (-1) zg) rfl ?_
    refine wp_call (md1 := am_m_String_length) (As := [.ref 1006]) (rest := [.int (iN (0))]) (kr1 := (78, 76)) rfl (js_len_6 _ (by omega)) ?_
    rintro _ _ ⟨rfl, rfl⟩
    refine wp_ge (a := 0) (b := 6) rfl (by omega) (by omega) (fun b_28 => ?_) (fun b_28 => ?_)
    · exact absurd b_28 (by decide)
    · refine wp_run (k := 1) (pc1 := 32) (l1 := [(0, .ref 55), (1, .int (iN (zb))), (2, .ref 1006), (3, .int (iN (0))), (4, .int (iN (0)))]) (st1 := [.int (iN (0))]) (kr1 := (78, 76)) (h1 := zS3 zh zi (-1) zg) rfl ?_
      refine wp_eq0 (a := 0) rfl (by omega) (fun b_32 => ?_) (fun b_32 => ?_)
      · refine wp_run (k := 1) (pc1 := 66) (l1 := [(0, .ref 55), (1, .int (iN (zb))), (2, .ref 1006), (3, .int (iN (0))), (4, .int (iN (0)))]) (st1 := [.int (iN (0))]) (kr1 := (78, 76)) (h1 := zS3 zh zi (-1) zg) rfl ?_
        refine wp_ret (rv := some (.int (iN (0)))) rfl ?_
        exact ⟨by rw [show bI (zMt F 0 zb zi) (Classical.propDecidable _) = 0 from if_neg (fun y => by have y1 : zi - zb = 6 := y.1; omega)], rfl⟩
      · exact absurd b_32 (by decide)
  · refine wp_run (k := 5) (pc1 := 22) (l1 := [(0, .ref 55), (1, .int (iN (zb))), (2, .ref 1006), (3, .int (iN (1))), (4, .int (iN (0)))]) (st1 := []) (kr1 := (78, 76)) (h1 := zS3 zh zi (-1) zg) rfl ?_
    exact jl_isWord_0 _ (by omega) q_ln q_r q_f q_c (by omega) (by omega) (fun zv q_v => ⟨by rw [q_v], rfl⟩) 20 0 (by omega) (fun k y => by omega) (by omega)
set_option maxRecDepth 20000 in
set_option maxHeartbeats 4000000 in
theorem jl_isWord_1 (zd : Nat) (q_d : 4 ≤ zd) {zh : am_H} {F : Int → Int} {zl : Int} {zi zb zg : Int} (q_ln : zh.1 55 9 = iN zl) (q_r : 0 ≤ zl ∧ zl ≤ 120) (q_f : ∀ k : Int, 0 ≤ k → k < zl → zh.1 59 k.toNat = iN (F k)) (q_c : ∀ k : Int, 0 ≤ k → k < zl → 32 ≤ F k ∧ F k ≤ 126) (q_i : 0 ≤ zb ∧ zi ≤ zl) (q_e : zi - zb = 5) {zQ : Option Value → am_H → Prop} (zk : ∀ zv : Int, zv = bI (zMt F 1 zb zi) (Classical.propDecidable _) → zQ (some (.int (iN zv))) (zS3 zh zi (-1) zg)) : ∀ (z_n : Nat) (zn : Nat) (q_n : zn ≤ 5) (q_w : ∀ k : Nat, k < zn → F (zb + (k : Int)) = zWb 1 k), (5 : Int) - zn < (z_n : Int) → am_wp zd am_m_Model_isWord 22 [(0, .ref 55), (1, .int (iN (zb))), (2, .ref 1007), (3, .int (iN (1))), (4, .int (iN ((zn : Int))))] [] (78, 76) (zS3 zh zi (-1) zg) (78, 76) zQ := by
  obtain ⟨zd, rfl⟩ : ∃ y_e, zd = y_e + 4 := ⟨zd - 4, by omega⟩
  intro z_n
  induction z_n with
  | zero => intro zn q_n q_w q_m; omega
  | succ z_n z_ih =>
    intro zn q_n q_w q_m
    refine wp_run (k := 2) (pc1 := 25) (l1 := [(0, .ref 55), (1, .int (iN (zb))), (2, .ref 1007), (3, .int (iN (1))), (4, .int (iN ((zn : Int))))]) (st1 := [.ref 1007, .int (iN ((zn : Int)))]) (kr1 := (78, 76)) (h1 := zS3 zh zi (-1) zg) rfl ?_
    refine wp_call (md1 := am_m_String_length) (As := [.ref 1007]) (rest := [.int (iN ((zn : Int)))]) (kr1 := (78, 76)) rfl (js_len_7 _ (by omega)) ?_
    rintro _ _ ⟨rfl, rfl⟩
    refine wp_ge (a := (zn : Int)) (b := 5) rfl (by omega) (by omega) (fun b_28 => ?_) (fun b_28 => ?_)
    · refine wp_run (k := 1) (pc1 := 66) (l1 := [(0, .ref 55), (1, .int (iN (zb))), (2, .ref 1007), (3, .int (iN (1))), (4, .int (iN ((zn : Int))))]) (st1 := [.int (iN (1))]) (kr1 := (78, 76)) (h1 := zS3 zh zi (-1) zg) rfl ?_
      refine wp_ret (rv := some (.int (iN (1)))) rfl ?_
      exact zk _ (if_pos ⟨by show zi - zb = 5; omega, fun k y => q_w k (by have y1 : k < 5 := y; omega)⟩).symm
    · refine wp_run (k := 1) (pc1 := 32) (l1 := [(0, .ref 55), (1, .int (iN (zb))), (2, .ref 1007), (3, .int (iN (1))), (4, .int (iN ((zn : Int))))]) (st1 := [.int (iN (1))]) (kr1 := (78, 76)) (h1 := zS3 zh zi (-1) zg) rfl ?_
      refine wp_eq0 (a := 1) rfl (by omega) (fun b_32 => ?_) (fun b_32 => ?_)
      · exact absurd b_32 (by decide)
      · have y_b := zWb_rg 1 zn
        have y_c := q_c (zb + (zn : Int)) (by omega) (by omega)
        refine wp_run (k := 5) (pc1 := 43) (l1 := [(0, .ref 55), (1, .int (iN (zb))), (2, .ref 1007), (3, .int (iN (1))), (4, .int (iN ((zn : Int))))]) (st1 := [.int (iN ((zb) + ((zn : Int)))), .ref 59]) (kr1 := (78, 76)) (h1 := zS3 zh zi (-1) zg) (Eq.trans (b := (some (43, [(0, .ref 55), (1, .int (iN (zb))), (2, .ref 1007), (3, .int (iN (1))), (4, .int (iN ((zn : Int))))], [.int ((iN (zb)) + (iN ((zn : Int)))), .ref 59], (78, 76), zS3 zh zi (-1) zg) : Option am_C)) rfl (by simp only [Int32.ofInt_add, Int32.ofInt_sub, Int32.ofInt_mul, Int32.ofInt_neg])) ?_
        refine wp_iald (f := (zS3 zh zi (-1) zg).1 59) (z := (zb) + ((zn : Int))) (j := (zb + (zn : Int)).toNat) (n := 120) (v := iN (F (zb + (zn : Int)))) rfl rfl (by omega) (by omega) (by decide) ((congrFun (zS3_c _ _ _ _ (by decide)) _).trans (q_f (zb + (zn : Int)) (by omega) (by omega))) ?_
        refine wp_run (k := 2) (pc1 := 47) (l1 := [(0, .ref 55), (1, .int (iN (zb))), (2, .ref 1007), (3, .int (iN (1))), (4, .int (iN ((zn : Int))))]) (st1 := [.int (iN ((zn : Int))), .ref 1007, .int (iN (F (zb + (zn : Int))))]) (kr1 := (78, 76)) (h1 := zS3 zh zi (-1) zg) rfl ?_
        refine wp_call (md1 := am_m_String_charAt) (As := [.ref 1007, .int (iN ((zn : Int)))]) (rest := [.int (iN (F (zb + (zn : Int))))]) (kr1 := (78, 76)) rfl (js_at_7 _ (by omega) (zi := zn) (by omega)) ?_
        rintro _ _ ⟨rfl, rfl⟩
        refine wp_ne (a := F (zb + (zn : Int))) (b := zWb 1 zn) rfl (by omega) (by omega) (fun b_50 => ?_) (fun b_50 => ?_)
        · refine wp_run (k := 4) (pc1 := 22) (l1 := [(0, .ref 55), (1, .int (iN (zb))), (2, .ref 1007), (3, .int (iN (0))), (4, .int (iN (((zn : Int)) + 1)))]) (st1 := []) (kr1 := (78, 76)) (h1 := zS3 zh zi (-1) zg) (Eq.trans (b := (some (22, [(0, .ref 55), (1, .int (iN (zb))), (2, .ref 1007), (3, .int (iN (0))), (4, .int ((iN ((zn : Int))) + iN (1)))], [], (78, 76), zS3 zh zi (-1) zg) : Option am_C)) rfl (by simp only [Int32.ofInt_add, Int32.ofInt_sub, Int32.ofInt_mul, Int32.ofInt_neg])) ?_
          refine wp_run (k := 2) (pc1 := 25) (l1 := [(0, .ref 55), (1, .int (iN (zb))), (2, .ref 1007), (3, .int (iN (0))), (4, .int (iN (((zn : Int)) + 1)))]) (st1 := [.ref 1007, .int (iN (((zn : Int)) + 1))]) (kr1 := (78, 76)) (h1 := zS3 zh zi (-1) zg) rfl ?_
          refine wp_call (md1 := am_m_String_length) (As := [.ref 1007]) (rest := [.int (iN (((zn : Int)) + 1))]) (kr1 := (78, 76)) rfl (js_len_7 _ (by omega)) ?_
          rintro _ _ ⟨rfl, rfl⟩
          refine wp_ge (a := ((zn : Int)) + 1) (b := 5) rfl (by omega) (by omega) (fun b_28 => ?_) (fun b_28 => ?_)
          · refine wp_run (k := 1) (pc1 := 66) (l1 := [(0, .ref 55), (1, .int (iN (zb))), (2, .ref 1007), (3, .int (iN (0))), (4, .int (iN (((zn : Int)) + 1)))]) (st1 := [.int (iN (0))]) (kr1 := (78, 76)) (h1 := zS3 zh zi (-1) zg) rfl ?_
            refine wp_ret (rv := some (.int (iN (0)))) rfl ?_
            exact zk _ (if_neg (fun y => by have y1 := y.2 zn (by show zn < 5; omega); omega)).symm
          · refine wp_run (k := 1) (pc1 := 32) (l1 := [(0, .ref 55), (1, .int (iN (zb))), (2, .ref 1007), (3, .int (iN (0))), (4, .int (iN (((zn : Int)) + 1)))]) (st1 := [.int (iN (0))]) (kr1 := (78, 76)) (h1 := zS3 zh zi (-1) zg) rfl ?_
            refine wp_eq0 (a := 0) rfl (by omega) (fun b_32 => ?_) (fun b_32 => ?_)
            · refine wp_run (k := 1) (pc1 := 66) (l1 := [(0, .ref 55), (1, .int (iN (zb))), (2, .ref 1007), (3, .int (iN (0))), (4, .int (iN (((zn : Int)) + 1)))]) (st1 := [.int (iN (0))]) (kr1 := (78, 76)) (h1 := zS3 zh zi (-1) zg) rfl ?_
              refine wp_ret (rv := some (.int (iN (0)))) rfl ?_
              exact zk _ (if_neg (fun y => by have y1 := y.2 zn (by show zn < 5; omega); omega)).symm
            · exact absurd b_32 (by decide)
        · refine wp_run (k := 5) (pc1 := 22) (l1 := [(0, .ref 55), (1, .int (iN (zb))), (2, .ref 1007), (3, .int (iN (1))), (4, .int (iN (((zn : Int)) + 1)))]) (st1 := []) (kr1 := (78, 76)) (h1 := zS3 zh zi (-1) zg) (Eq.trans (b := (some (22, [(0, .ref 55), (1, .int (iN (zb))), (2, .ref 1007), (3, .int (iN (1))), (4, .int ((iN ((zn : Int))) + iN (1)))], [], (78, 76), zS3 zh zi (-1) zg) : Option am_C)) rfl (by simp only [Int32.ofInt_add, Int32.ofInt_sub, Int32.ofInt_mul, Int32.ofInt_neg])) ?_
          refine z_ih (zn + 1) (by omega) (fun k y => ?_) (by omega)
          by_cases y1 : k = zn
          · rw [y1]; omega
          · exact q_w k (by omega)
set_option maxRecDepth 20000 in
set_option maxHeartbeats 4000000 in
theorem jm_isWord_1 (zd : Nat) (q_d : 4 ≤ zd) {zh : am_H} {F : Int → Int} {zl : Int} {zi zb zg : Int} (q_ln : zh.1 55 9 = iN zl) (q_r : 0 ≤ zl ∧ zl ≤ 120) (q_f : ∀ k : Int, 0 ≤ k → k < zl → zh.1 59 k.toNat = iN (F k)) (q_c : ∀ k : Int, 0 ≤ k → k < zl → 32 ≤ F k ∧ F k ≤ 126) (q_i : 0 ≤ zb ∧ zb ≤ zi ∧ zi ≤ zl) : am_wp zd am_m_Model_isWord 0 [(0, .ref 55), (1, .int (iN (zb))), (2, .ref 1007)] [] (78, 76) (zS3 zh zi (-1) zg) (78, 76) (fun rv h' => rv = some (.int (iN (bI (zMt F 1 zb zi) (Classical.propDecidable _)))) ∧ zS3 zh zi (-1) zg = h') := by
  obtain ⟨zd, rfl⟩ : ∃ y_e, zd = y_e + 4 := ⟨zd - 4, by omega⟩
  refine wp_run (k := 5) (pc1 := 7) (l1 := [(0, .ref 55), (1, .int (iN (zb))), (2, .ref 1007)]) (st1 := [.ref 1007, .int (iN ((zi) - (zb)))]) (kr1 := (78, 76)) (h1 := zS3 zh zi (-1) zg) (Eq.trans (b := (some (7, [(0, .ref 55), (1, .int (iN (zb))), (2, .ref 1007)], [.ref 1007, .int (((zS3 zh zi (-1) zg).1 55 8) - (iN (zb)))], (78, 76), zS3 zh zi (-1) zg) : Option am_C)) rfl (by simp only [(show (zS3 zh zi (-1) zg).1 55 8 = iN (zi) from (zS3_a _ _ _ _).1), Int32.ofInt_add, Int32.ofInt_sub, Int32.ofInt_mul, Int32.ofInt_neg])) ?_
  refine wp_call (md1 := am_m_String_length) (As := [.ref 1007]) (rest := [.int (iN ((zi) - (zb)))]) (kr1 := (78, 76)) rfl (js_len_7 _ (by omega)) ?_
  rintro _ _ ⟨rfl, rfl⟩
  refine wp_ne (a := (zi) - (zb)) (b := 5) rfl (by omega) (by omega) (fun b_10 => ?_) (fun b_10 => ?_)
  · refine wp_run (k := 4) (pc1 := 22) (l1 := [(0, .ref 55), (1, .int (iN (zb))), (2, .ref 1007), (3, .int (iN (0))), (4, .int (iN (0)))]) (st1 := []) (kr1 := (78, 76)) (h1 := zS3 zh zi (-1) zg) rfl ?_
    refine wp_run (k := 2) (pc1 := 25) (l1 := [(0, .ref 55), (1, .int (iN (zb))), (2, .ref 1007), (3, .int (iN (0))), (4, .int (iN (0)))]) (st1 := [.ref 1007, .int (iN (0))]) (kr1 := (78, 76)) (h1 := zS3 zh zi (-1) zg) rfl ?_
    refine wp_call (md1 := am_m_String_length) (As := [.ref 1007]) (rest := [.int (iN (0))]) (kr1 := (78, 76)) rfl (js_len_7 _ (by omega)) ?_
    rintro _ _ ⟨rfl, rfl⟩
    refine wp_ge (a := 0) (b := 5) rfl (by omega) (by omega) (fun b_28 => ?_) (fun b_28 => ?_)
    · exact absurd b_28 (by decide)
    · refine wp_run (k := 1) (pc1 := 32) (l1 := [(0, .ref 55), (1, .int (iN (zb))), (2, .ref 1007), (3, .int (iN (0))), (4, .int (iN (0)))]) (st1 := [.int (iN (0))]) (kr1 := (78, 76)) (h1 := zS3 zh zi (-1) zg) rfl ?_
      refine wp_eq0 (a := 0) rfl (by omega) (fun b_32 => ?_) (fun b_32 => ?_)
      · refine wp_run (k := 1) (pc1 := 66) (l1 := [(0, .ref 55), (1, .int (iN (zb))), (2, .ref 1007), (3, .int (iN (0))), (4, .int (iN (0)))]) (st1 := [.int (iN (0))]) (kr1 := (78, 76)) (h1 := zS3 zh zi (-1) zg) rfl ?_
        refine wp_ret (rv := some (.int (iN (0)))) rfl ?_
        exact ⟨by rw [show bI (zMt F 1 zb zi) (Classical.propDecidable _) = 0 from if_neg (fun y => by have y1 : zi - zb = 5 := y.1; omega)], rfl⟩
      · exact absurd b_32 (by decide)
  · refine wp_run (k := 5) (pc1 := 22) (l1 := [(0, .ref 55), (1, .int (iN (zb))), (2, .ref 1007), (3, .int (iN (1))), (4, .int (iN (0)))]) (st1 := []) (kr1 := (78, 76)) (h1 := zS3 zh zi (-1) zg) rfl ?_
    exact jl_isWord_1 _ (by omega) q_ln q_r q_f q_c (by omega) (by omega) (fun zv q_v => ⟨by rw [q_v], rfl⟩) 20 0 (by omega) (fun k y => by omega) (by omega)
set_option maxRecDepth 20000 in
set_option maxHeartbeats 4000000 in
theorem jl_isWord_2 (zd : Nat) (q_d : 4 ≤ zd) {zh : am_H} {F : Int → Int} {zl : Int} {zi zb zg : Int} (q_ln : zh.1 55 9 = iN zl) (q_r : 0 ≤ zl ∧ zl ≤ 120) (q_f : ∀ k : Int, 0 ≤ k → k < zl → zh.1 59 k.toNat = iN (F k)) (q_c : ∀ k : Int, 0 ≤ k → k < zl → 32 ≤ F k ∧ F k ≤ 126) (q_i : 0 ≤ zb ∧ zi ≤ zl) (q_e : zi - zb = 6) {zQ : Option Value → am_H → Prop} (zk : ∀ zv : Int, zv = bI (zMt F 2 zb zi) (Classical.propDecidable _) → zQ (some (.int (iN zv))) (zS3 zh zi (-1) zg)) : ∀ (z_n : Nat) (zn : Nat) (q_n : zn ≤ 6) (q_w : ∀ k : Nat, k < zn → F (zb + (k : Int)) = zWb 2 k), (6 : Int) - zn < (z_n : Int) → am_wp zd am_m_Model_isWord 22 [(0, .ref 55), (1, .int (iN (zb))), (2, .ref 1008), (3, .int (iN (1))), (4, .int (iN ((zn : Int))))] [] (78, 76) (zS3 zh zi (-1) zg) (78, 76) zQ := by
  obtain ⟨zd, rfl⟩ : ∃ y_e, zd = y_e + 4 := ⟨zd - 4, by omega⟩
  intro z_n
  induction z_n with
  | zero => intro zn q_n q_w q_m; omega
  | succ z_n z_ih =>
    intro zn q_n q_w q_m
    refine wp_run (k := 2) (pc1 := 25) (l1 := [(0, .ref 55), (1, .int (iN (zb))), (2, .ref 1008), (3, .int (iN (1))), (4, .int (iN ((zn : Int))))]) (st1 := [.ref 1008, .int (iN ((zn : Int)))]) (kr1 := (78, 76)) (h1 := zS3 zh zi (-1) zg) rfl ?_
    refine wp_call (md1 := am_m_String_length) (As := [.ref 1008]) (rest := [.int (iN ((zn : Int)))]) (kr1 := (78, 76)) rfl (js_len_8 _ (by omega)) ?_
    rintro _ _ ⟨rfl, rfl⟩
    refine wp_ge (a := (zn : Int)) (b := 6) rfl (by omega) (by omega) (fun b_28 => ?_) (fun b_28 => ?_)
    · refine wp_run (k := 1) (pc1 := 66) (l1 := [(0, .ref 55), (1, .int (iN (zb))), (2, .ref 1008), (3, .int (iN (1))), (4, .int (iN ((zn : Int))))]) (st1 := [.int (iN (1))]) (kr1 := (78, 76)) (h1 := zS3 zh zi (-1) zg) rfl ?_
      refine wp_ret (rv := some (.int (iN (1)))) rfl ?_
      exact zk _ (if_pos ⟨by show zi - zb = 6; omega, fun k y => q_w k (by have y1 : k < 6 := y; omega)⟩).symm
    · refine wp_run (k := 1) (pc1 := 32) (l1 := [(0, .ref 55), (1, .int (iN (zb))), (2, .ref 1008), (3, .int (iN (1))), (4, .int (iN ((zn : Int))))]) (st1 := [.int (iN (1))]) (kr1 := (78, 76)) (h1 := zS3 zh zi (-1) zg) rfl ?_
      refine wp_eq0 (a := 1) rfl (by omega) (fun b_32 => ?_) (fun b_32 => ?_)
      · exact absurd b_32 (by decide)
      · have y_b := zWb_rg 2 zn
        have y_c := q_c (zb + (zn : Int)) (by omega) (by omega)
        refine wp_run (k := 5) (pc1 := 43) (l1 := [(0, .ref 55), (1, .int (iN (zb))), (2, .ref 1008), (3, .int (iN (1))), (4, .int (iN ((zn : Int))))]) (st1 := [.int (iN ((zb) + ((zn : Int)))), .ref 59]) (kr1 := (78, 76)) (h1 := zS3 zh zi (-1) zg) (Eq.trans (b := (some (43, [(0, .ref 55), (1, .int (iN (zb))), (2, .ref 1008), (3, .int (iN (1))), (4, .int (iN ((zn : Int))))], [.int ((iN (zb)) + (iN ((zn : Int)))), .ref 59], (78, 76), zS3 zh zi (-1) zg) : Option am_C)) rfl (by simp only [Int32.ofInt_add, Int32.ofInt_sub, Int32.ofInt_mul, Int32.ofInt_neg])) ?_
        refine wp_iald (f := (zS3 zh zi (-1) zg).1 59) (z := (zb) + ((zn : Int))) (j := (zb + (zn : Int)).toNat) (n := 120) (v := iN (F (zb + (zn : Int)))) rfl rfl (by omega) (by omega) (by decide) ((congrFun (zS3_c _ _ _ _ (by decide)) _).trans (q_f (zb + (zn : Int)) (by omega) (by omega))) ?_
        refine wp_run (k := 2) (pc1 := 47) (l1 := [(0, .ref 55), (1, .int (iN (zb))), (2, .ref 1008), (3, .int (iN (1))), (4, .int (iN ((zn : Int))))]) (st1 := [.int (iN ((zn : Int))), .ref 1008, .int (iN (F (zb + (zn : Int))))]) (kr1 := (78, 76)) (h1 := zS3 zh zi (-1) zg) rfl ?_
        refine wp_call (md1 := am_m_String_charAt) (As := [.ref 1008, .int (iN ((zn : Int)))]) (rest := [.int (iN (F (zb + (zn : Int))))]) (kr1 := (78, 76)) rfl (js_at_8 _ (by omega) (zi := zn) (by omega)) ?_
        rintro _ _ ⟨rfl, rfl⟩
        refine wp_ne (a := F (zb + (zn : Int))) (b := zWb 2 zn) rfl (by omega) (by omega) (fun b_50 => ?_) (fun b_50 => ?_)
        · refine wp_run (k := 4) (pc1 := 22) (l1 := [(0, .ref 55), (1, .int (iN (zb))), (2, .ref 1008), (3, .int (iN (0))), (4, .int (iN (((zn : Int)) + 1)))]) (st1 := []) (kr1 := (78, 76)) (h1 := zS3 zh zi (-1) zg) (Eq.trans (b := (some (22, [(0, .ref 55), (1, .int (iN (zb))), (2, .ref 1008), (3, .int (iN (0))), (4, .int ((iN ((zn : Int))) + iN (1)))], [], (78, 76), zS3 zh zi (-1) zg) : Option am_C)) rfl (by simp only [Int32.ofInt_add, Int32.ofInt_sub, Int32.ofInt_mul, Int32.ofInt_neg])) ?_
          refine wp_run (k := 2) (pc1 := 25) (l1 := [(0, .ref 55), (1, .int (iN (zb))), (2, .ref 1008), (3, .int (iN (0))), (4, .int (iN (((zn : Int)) + 1)))]) (st1 := [.ref 1008, .int (iN (((zn : Int)) + 1))]) (kr1 := (78, 76)) (h1 := zS3 zh zi (-1) zg) rfl ?_
          refine wp_call (md1 := am_m_String_length) (As := [.ref 1008]) (rest := [.int (iN (((zn : Int)) + 1))]) (kr1 := (78, 76)) rfl (js_len_8 _ (by omega)) ?_
          rintro _ _ ⟨rfl, rfl⟩
          refine wp_ge (a := ((zn : Int)) + 1) (b := 6) rfl (by omega) (by omega) (fun b_28 => ?_) (fun b_28 => ?_)
          · refine wp_run (k := 1) (pc1 := 66) (l1 := [(0, .ref 55), (1, .int (iN (zb))), (2, .ref 1008), (3, .int (iN (0))), (4, .int (iN (((zn : Int)) + 1)))]) (st1 := [.int (iN (0))]) (kr1 := (78, 76)) (h1 := zS3 zh zi (-1) zg) rfl ?_
            refine wp_ret (rv := some (.int (iN (0)))) rfl ?_
            exact zk _ (if_neg (fun y => by have y1 := y.2 zn (by show zn < 6; omega); omega)).symm
          · refine wp_run (k := 1) (pc1 := 32) (l1 := [(0, .ref 55), (1, .int (iN (zb))), (2, .ref 1008), (3, .int (iN (0))), (4, .int (iN (((zn : Int)) + 1)))]) (st1 := [.int (iN (0))]) (kr1 := (78, 76)) (h1 := zS3 zh zi (-1) zg) rfl ?_
            refine wp_eq0 (a := 0) rfl (by omega) (fun b_32 => ?_) (fun b_32 => ?_)
            · refine wp_run (k := 1) (pc1 := 66) (l1 := [(0, .ref 55), (1, .int (iN (zb))), (2, .ref 1008), (3, .int (iN (0))), (4, .int (iN (((zn : Int)) + 1)))]) (st1 := [.int (iN (0))]) (kr1 := (78, 76)) (h1 := zS3 zh zi (-1) zg) rfl ?_
              refine wp_ret (rv := some (.int (iN (0)))) rfl ?_
              exact zk _ (if_neg (fun y => by have y1 := y.2 zn (by show zn < 6; omega); omega)).symm
            · exact absurd b_32 (by decide)
        · refine wp_run (k := 5) (pc1 := 22) (l1 := [(0, .ref 55), (1, .int (iN (zb))), (2, .ref 1008), (3, .int (iN (1))), (4, .int (iN (((zn : Int)) + 1)))]) (st1 := []) (kr1 := (78, 76)) (h1 := zS3 zh zi (-1) zg) (Eq.trans (b := (some (22, [(0, .ref 55), (1, .int (iN (zb))), (2, .ref 1008), (3, .int (iN (1))), (4, .int ((iN ((zn : Int))) + iN (1)))], [], (78, 76), zS3 zh zi (-1) zg) : Option am_C)) rfl (by simp only [Int32.ofInt_add, Int32.ofInt_sub, Int32.ofInt_mul, Int32.ofInt_neg])) ?_
          refine z_ih (zn + 1) (by omega) (fun k y => ?_) (by omega)
          by_cases y1 : k = zn
          · rw [y1]; omega
          · exact q_w k (by omega)
set_option maxRecDepth 20000 in
set_option maxHeartbeats 4000000 in
theorem jm_isWord_2 (zd : Nat) (q_d : 4 ≤ zd) {zh : am_H} {F : Int → Int} {zl : Int} {zi zb zg : Int} (q_ln : zh.1 55 9 = iN zl) (q_r : 0 ≤ zl ∧ zl ≤ 120) (q_f : ∀ k : Int, 0 ≤ k → k < zl → zh.1 59 k.toNat = iN (F k)) (q_c : ∀ k : Int, 0 ≤ k → k < zl → 32 ≤ F k ∧ F k ≤ 126) (q_i : 0 ≤ zb ∧ zb ≤ zi ∧ zi ≤ zl) : am_wp zd am_m_Model_isWord 0 [(0, .ref 55), (1, .int (iN (zb))), (2, .ref 1008)] [] (78, 76) (zS3 zh zi (-1) zg) (78, 76) (fun rv h' => rv = some (.int (iN (bI (zMt F 2 zb zi) (Classical.propDecidable _)))) ∧ zS3 zh zi (-1) zg = h') := by
  obtain ⟨zd, rfl⟩ : ∃ y_e, zd = y_e + 4 := ⟨zd - 4, by omega⟩
  refine wp_run (k := 5) (pc1 := 7) (l1 := [(0, .ref 55), (1, .int (iN (zb))), (2, .ref 1008)]) (st1 := [.ref 1008, .int (iN ((zi) - (zb)))]) (kr1 := (78, 76)) (h1 := zS3 zh zi (-1) zg) (Eq.trans (b := (some (7, [(0, .ref 55), (1, .int (iN (zb))), (2, .ref 1008)], [.ref 1008, .int (((zS3 zh zi (-1) zg).1 55 8) - (iN (zb)))], (78, 76), zS3 zh zi (-1) zg) : Option am_C)) rfl (by simp only [(show (zS3 zh zi (-1) zg).1 55 8 = iN (zi) from (zS3_a _ _ _ _).1), Int32.ofInt_add, Int32.ofInt_sub, Int32.ofInt_mul, Int32.ofInt_neg])) ?_
  refine wp_call (md1 := am_m_String_length) (As := [.ref 1008]) (rest := [.int (iN ((zi) - (zb)))]) (kr1 := (78, 76)) rfl (js_len_8 _ (by omega)) ?_
  rintro _ _ ⟨rfl, rfl⟩
  refine wp_ne (a := (zi) - (zb)) (b := 6) rfl (by omega) (by omega) (fun b_10 => ?_) (fun b_10 => ?_)
  · refine wp_run (k := 4) (pc1 := 22) (l1 := [(0, .ref 55), (1, .int (iN (zb))), (2, .ref 1008), (3, .int (iN (0))), (4, .int (iN (0)))]) (st1 := []) (kr1 := (78, 76)) (h1 := zS3 zh zi (-1) zg) rfl ?_
    refine wp_run (k := 2) (pc1 := 25) (l1 := [(0, .ref 55), (1, .int (iN (zb))), (2, .ref 1008), (3, .int (iN (0))), (4, .int (iN (0)))]) (st1 := [.ref 1008, .int (iN (0))]) (kr1 := (78, 76)) (h1 := zS3 zh zi (-1) zg) rfl ?_
    refine wp_call (md1 := am_m_String_length) (As := [.ref 1008]) (rest := [.int (iN (0))]) (kr1 := (78, 76)) rfl (js_len_8 _ (by omega)) ?_
    rintro _ _ ⟨rfl, rfl⟩
    refine wp_ge (a := 0) (b := 6) rfl (by omega) (by omega) (fun b_28 => ?_) (fun b_28 => ?_)
    · exact absurd b_28 (by decide)
    · refine wp_run (k := 1) (pc1 := 32) (l1 := [(0, .ref 55), (1, .int (iN (zb))), (2, .ref 1008), (3, .int (iN (0))), (4, .int (iN (0)))]) (st1 := [.int (iN (0))]) (kr1 := (78, 76)) (h1 := zS3 zh zi (-1) zg) rfl ?_
      refine wp_eq0 (a := 0) rfl (by omega) (fun b_32 => ?_) (fun b_32 => ?_)
      · refine wp_run (k := 1) (pc1 := 66) (l1 := [(0, .ref 55), (1, .int (iN (zb))), (2, .ref 1008), (3, .int (iN (0))), (4, .int (iN (0)))]) (st1 := [.int (iN (0))]) (kr1 := (78, 76)) (h1 := zS3 zh zi (-1) zg) rfl ?_
        refine wp_ret (rv := some (.int (iN (0)))) rfl ?_
        exact ⟨by rw [show bI (zMt F 2 zb zi) (Classical.propDecidable _) = 0 from if_neg (fun y => by have y1 : zi - zb = 6 := y.1; omega)], rfl⟩
      · exact absurd b_32 (by decide)
  · refine wp_run (k := 5) (pc1 := 22) (l1 := [(0, .ref 55), (1, .int (iN (zb))), (2, .ref 1008), (3, .int (iN (1))), (4, .int (iN (0)))]) (st1 := []) (kr1 := (78, 76)) (h1 := zS3 zh zi (-1) zg) rfl ?_
    exact jl_isWord_2 _ (by omega) q_ln q_r q_f q_c (by omega) (by omega) (fun zv q_v => ⟨by rw [q_v], rfl⟩) 20 0 (by omega) (fun k y => by omega) (by omega)
set_option maxRecDepth 20000 in
set_option maxHeartbeats 4000000 in
theorem jl_isWord_3 (zd : Nat) (q_d : 4 ≤ zd) {zh : am_H} {F : Int → Int} {zl : Int} {zi zb zg : Int} (q_ln : zh.1 55 9 = iN zl) (q_r : 0 ≤ zl ∧ zl ≤ 120) (q_f : ∀ k : Int, 0 ≤ k → k < zl → zh.1 59 k.toNat = iN (F k)) (q_c : ∀ k : Int, 0 ≤ k → k < zl → 32 ≤ F k ∧ F k ≤ 126) (q_i : 0 ≤ zb ∧ zi ≤ zl) (q_e : zi - zb = 7) {zQ : Option Value → am_H → Prop} (zk : ∀ zv : Int, zv = bI (zMt F 3 zb zi) (Classical.propDecidable _) → zQ (some (.int (iN zv))) (zS3 zh zi (-1) zg)) : ∀ (z_n : Nat) (zn : Nat) (q_n : zn ≤ 7) (q_w : ∀ k : Nat, k < zn → F (zb + (k : Int)) = zWb 3 k), (7 : Int) - zn < (z_n : Int) → am_wp zd am_m_Model_isWord 22 [(0, .ref 55), (1, .int (iN (zb))), (2, .ref 1009), (3, .int (iN (1))), (4, .int (iN ((zn : Int))))] [] (78, 76) (zS3 zh zi (-1) zg) (78, 76) zQ := by
  obtain ⟨zd, rfl⟩ : ∃ y_e, zd = y_e + 4 := ⟨zd - 4, by omega⟩
  intro z_n
  induction z_n with
  | zero => intro zn q_n q_w q_m; omega
  | succ z_n z_ih =>
    intro zn q_n q_w q_m
    refine wp_run (k := 2) (pc1 := 25) (l1 := [(0, .ref 55), (1, .int (iN (zb))), (2, .ref 1009), (3, .int (iN (1))), (4, .int (iN ((zn : Int))))]) (st1 := [.ref 1009, .int (iN ((zn : Int)))]) (kr1 := (78, 76)) (h1 := zS3 zh zi (-1) zg) rfl ?_
    refine wp_call (md1 := am_m_String_length) (As := [.ref 1009]) (rest := [.int (iN ((zn : Int)))]) (kr1 := (78, 76)) rfl (js_len_9 _ (by omega)) ?_
    rintro _ _ ⟨rfl, rfl⟩
    refine wp_ge (a := (zn : Int)) (b := 7) rfl (by omega) (by omega) (fun b_28 => ?_) (fun b_28 => ?_)
    · refine wp_run (k := 1) (pc1 := 66) (l1 := [(0, .ref 55), (1, .int (iN (zb))), (2, .ref 1009), (3, .int (iN (1))), (4, .int (iN ((zn : Int))))]) (st1 := [.int (iN (1))]) (kr1 := (78, 76)) (h1 := zS3 zh zi (-1) zg) rfl ?_
      refine wp_ret (rv := some (.int (iN (1)))) rfl ?_
      exact zk _ (if_pos ⟨by show zi - zb = 7; omega, fun k y => q_w k (by have y1 : k < 7 := y; omega)⟩).symm
    · refine wp_run (k := 1) (pc1 := 32) (l1 := [(0, .ref 55), (1, .int (iN (zb))), (2, .ref 1009), (3, .int (iN (1))), (4, .int (iN ((zn : Int))))]) (st1 := [.int (iN (1))]) (kr1 := (78, 76)) (h1 := zS3 zh zi (-1) zg) rfl ?_
      refine wp_eq0 (a := 1) rfl (by omega) (fun b_32 => ?_) (fun b_32 => ?_)
      · exact absurd b_32 (by decide)
      · have y_b := zWb_rg 3 zn
        have y_c := q_c (zb + (zn : Int)) (by omega) (by omega)
        refine wp_run (k := 5) (pc1 := 43) (l1 := [(0, .ref 55), (1, .int (iN (zb))), (2, .ref 1009), (3, .int (iN (1))), (4, .int (iN ((zn : Int))))]) (st1 := [.int (iN ((zb) + ((zn : Int)))), .ref 59]) (kr1 := (78, 76)) (h1 := zS3 zh zi (-1) zg) (Eq.trans (b := (some (43, [(0, .ref 55), (1, .int (iN (zb))), (2, .ref 1009), (3, .int (iN (1))), (4, .int (iN ((zn : Int))))], [.int ((iN (zb)) + (iN ((zn : Int)))), .ref 59], (78, 76), zS3 zh zi (-1) zg) : Option am_C)) rfl (by simp only [Int32.ofInt_add, Int32.ofInt_sub, Int32.ofInt_mul, Int32.ofInt_neg])) ?_
        refine wp_iald (f := (zS3 zh zi (-1) zg).1 59) (z := (zb) + ((zn : Int))) (j := (zb + (zn : Int)).toNat) (n := 120) (v := iN (F (zb + (zn : Int)))) rfl rfl (by omega) (by omega) (by decide) ((congrFun (zS3_c _ _ _ _ (by decide)) _).trans (q_f (zb + (zn : Int)) (by omega) (by omega))) ?_
        refine wp_run (k := 2) (pc1 := 47) (l1 := [(0, .ref 55), (1, .int (iN (zb))), (2, .ref 1009), (3, .int (iN (1))), (4, .int (iN ((zn : Int))))]) (st1 := [.int (iN ((zn : Int))), .ref 1009, .int (iN (F (zb + (zn : Int))))]) (kr1 := (78, 76)) (h1 := zS3 zh zi (-1) zg) rfl ?_
        refine wp_call (md1 := am_m_String_charAt) (As := [.ref 1009, .int (iN ((zn : Int)))]) (rest := [.int (iN (F (zb + (zn : Int))))]) (kr1 := (78, 76)) rfl (js_at_9 _ (by omega) (zi := zn) (by omega)) ?_
        rintro _ _ ⟨rfl, rfl⟩
        refine wp_ne (a := F (zb + (zn : Int))) (b := zWb 3 zn) rfl (by omega) (by omega) (fun b_50 => ?_) (fun b_50 => ?_)
        · refine wp_run (k := 4) (pc1 := 22) (l1 := [(0, .ref 55), (1, .int (iN (zb))), (2, .ref 1009), (3, .int (iN (0))), (4, .int (iN (((zn : Int)) + 1)))]) (st1 := []) (kr1 := (78, 76)) (h1 := zS3 zh zi (-1) zg) (Eq.trans (b := (some (22, [(0, .ref 55), (1, .int (iN (zb))), (2, .ref 1009), (3, .int (iN (0))), (4, .int ((iN ((zn : Int))) + iN (1)))], [], (78, 76), zS3 zh zi (-1) zg) : Option am_C)) rfl (by simp only [Int32.ofInt_add, Int32.ofInt_sub, Int32.ofInt_mul, Int32.ofInt_neg])) ?_
          refine wp_run (k := 2) (pc1 := 25) (l1 := [(0, .ref 55), (1, .int (iN (zb))), (2, .ref 1009), (3, .int (iN (0))), (4, .int (iN (((zn : Int)) + 1)))]) (st1 := [.ref 1009, .int (iN (((zn : Int)) + 1))]) (kr1 := (78, 76)) (h1 := zS3 zh zi (-1) zg) rfl ?_
          refine wp_call (md1 := am_m_String_length) (As := [.ref 1009]) (rest := [.int (iN (((zn : Int)) + 1))]) (kr1 := (78, 76)) rfl (js_len_9 _ (by omega)) ?_
          rintro _ _ ⟨rfl, rfl⟩
          refine wp_ge (a := ((zn : Int)) + 1) (b := 7) rfl (by omega) (by omega) (fun b_28 => ?_) (fun b_28 => ?_)
          · refine wp_run (k := 1) (pc1 := 66) (l1 := [(0, .ref 55), (1, .int (iN (zb))), (2, .ref 1009), (3, .int (iN (0))), (4, .int (iN (((zn : Int)) + 1)))]) (st1 := [.int (iN (0))]) (kr1 := (78, 76)) (h1 := zS3 zh zi (-1) zg) rfl ?_
            refine wp_ret (rv := some (.int (iN (0)))) rfl ?_
            exact zk _ (if_neg (fun y => by have y1 := y.2 zn (by show zn < 7; omega); omega)).symm
          · refine wp_run (k := 1) (pc1 := 32) (l1 := [(0, .ref 55), (1, .int (iN (zb))), (2, .ref 1009), (3, .int (iN (0))), (4, .int (iN (((zn : Int)) + 1)))]) (st1 := [.int (iN (0))]) (kr1 := (78, 76)) (h1 := zS3 zh zi (-1) zg) rfl ?_
            refine wp_eq0 (a := 0) rfl (by omega) (fun b_32 => ?_) (fun b_32 => ?_)
            · refine wp_run (k := 1) (pc1 := 66) (l1 := [(0, .ref 55), (1, .int (iN (zb))), (2, .ref 1009), (3, .int (iN (0))), (4, .int (iN (((zn : Int)) + 1)))]) (st1 := [.int (iN (0))]) (kr1 := (78, 76)) (h1 := zS3 zh zi (-1) zg) rfl ?_
              refine wp_ret (rv := some (.int (iN (0)))) rfl ?_
              exact zk _ (if_neg (fun y => by have y1 := y.2 zn (by show zn < 7; omega); omega)).symm
            · exact absurd b_32 (by decide)
        · refine wp_run (k := 5) (pc1 := 22) (l1 := [(0, .ref 55), (1, .int (iN (zb))), (2, .ref 1009), (3, .int (iN (1))), (4, .int (iN (((zn : Int)) + 1)))]) (st1 := []) (kr1 := (78, 76)) (h1 := zS3 zh zi (-1) zg) (Eq.trans (b := (some (22, [(0, .ref 55), (1, .int (iN (zb))), (2, .ref 1009), (3, .int (iN (1))), (4, .int ((iN ((zn : Int))) + iN (1)))], [], (78, 76), zS3 zh zi (-1) zg) : Option am_C)) rfl (by simp only [Int32.ofInt_add, Int32.ofInt_sub, Int32.ofInt_mul, Int32.ofInt_neg])) ?_
          refine z_ih (zn + 1) (by omega) (fun k y => ?_) (by omega)
          by_cases y1 : k = zn
          · rw [y1]; omega
          · exact q_w k (by omega)
set_option maxRecDepth 20000 in
set_option maxHeartbeats 4000000 in
theorem jm_isWord_3 (zd : Nat) (q_d : 4 ≤ zd) {zh : am_H} {F : Int → Int} {zl : Int} {zi zb zg : Int} (q_ln : zh.1 55 9 = iN zl) (q_r : 0 ≤ zl ∧ zl ≤ 120) (q_f : ∀ k : Int, 0 ≤ k → k < zl → zh.1 59 k.toNat = iN (F k)) (q_c : ∀ k : Int, 0 ≤ k → k < zl → 32 ≤ F k ∧ F k ≤ 126) (q_i : 0 ≤ zb ∧ zb ≤ zi ∧ zi ≤ zl) : am_wp zd am_m_Model_isWord 0 [(0, .ref 55), (1, .int (iN (zb))), (2, .ref 1009)] [] (78, 76) (zS3 zh zi (-1) zg) (78, 76) (fun rv h' => rv = some (.int (iN (bI (zMt F 3 zb zi) (Classical.propDecidable _)))) ∧ zS3 zh zi (-1) zg = h') := by
  obtain ⟨zd, rfl⟩ : ∃ y_e, zd = y_e + 4 := ⟨zd - 4, by omega⟩
  refine wp_run (k := 5) (pc1 := 7) (l1 := [(0, .ref 55), (1, .int (iN (zb))), (2, .ref 1009)]) (st1 := [.ref 1009, .int (iN ((zi) - (zb)))]) (kr1 := (78, 76)) (h1 := zS3 zh zi (-1) zg) (Eq.trans (b := (some (7, [(0, .ref 55), (1, .int (iN (zb))), (2, .ref 1009)], [.ref 1009, .int (((zS3 zh zi (-1) zg).1 55 8) - (iN (zb)))], (78, 76), zS3 zh zi (-1) zg) : Option am_C)) rfl (by simp only [(show (zS3 zh zi (-1) zg).1 55 8 = iN (zi) from (zS3_a _ _ _ _).1), Int32.ofInt_add, Int32.ofInt_sub, Int32.ofInt_mul, Int32.ofInt_neg])) ?_
  refine wp_call (md1 := am_m_String_length) (As := [.ref 1009]) (rest := [.int (iN ((zi) - (zb)))]) (kr1 := (78, 76)) rfl (js_len_9 _ (by omega)) ?_
  rintro _ _ ⟨rfl, rfl⟩
  refine wp_ne (a := (zi) - (zb)) (b := 7) rfl (by omega) (by omega) (fun b_10 => ?_) (fun b_10 => ?_)
  · refine wp_run (k := 4) (pc1 := 22) (l1 := [(0, .ref 55), (1, .int (iN (zb))), (2, .ref 1009), (3, .int (iN (0))), (4, .int (iN (0)))]) (st1 := []) (kr1 := (78, 76)) (h1 := zS3 zh zi (-1) zg) rfl ?_
    refine wp_run (k := 2) (pc1 := 25) (l1 := [(0, .ref 55), (1, .int (iN (zb))), (2, .ref 1009), (3, .int (iN (0))), (4, .int (iN (0)))]) (st1 := [.ref 1009, .int (iN (0))]) (kr1 := (78, 76)) (h1 := zS3 zh zi (-1) zg) rfl ?_
    refine wp_call (md1 := am_m_String_length) (As := [.ref 1009]) (rest := [.int (iN (0))]) (kr1 := (78, 76)) rfl (js_len_9 _ (by omega)) ?_
    rintro _ _ ⟨rfl, rfl⟩
    refine wp_ge (a := 0) (b := 7) rfl (by omega) (by omega) (fun b_28 => ?_) (fun b_28 => ?_)
    · exact absurd b_28 (by decide)
    · refine wp_run (k := 1) (pc1 := 32) (l1 := [(0, .ref 55), (1, .int (iN (zb))), (2, .ref 1009), (3, .int (iN (0))), (4, .int (iN (0)))]) (st1 := [.int (iN (0))]) (kr1 := (78, 76)) (h1 := zS3 zh zi (-1) zg) rfl ?_
      refine wp_eq0 (a := 0) rfl (by omega) (fun b_32 => ?_) (fun b_32 => ?_)
      · refine wp_run (k := 1) (pc1 := 66) (l1 := [(0, .ref 55), (1, .int (iN (zb))), (2, .ref 1009), (3, .int (iN (0))), (4, .int (iN (0)))]) (st1 := [.int (iN (0))]) (kr1 := (78, 76)) (h1 := zS3 zh zi (-1) zg) rfl ?_
        refine wp_ret (rv := some (.int (iN (0)))) rfl ?_
        exact ⟨by rw [show bI (zMt F 3 zb zi) (Classical.propDecidable _) = 0 from if_neg (fun y => by have y1 : zi - zb = 7 := y.1; omega)], rfl⟩
      · exact absurd b_32 (by decide)
  · refine wp_run (k := 5) (pc1 := 22) (l1 := [(0, .ref 55), (1, .int (iN (zb))), (2, .ref 1009), (3, .int (iN (1))), (4, .int (iN (0)))]) (st1 := []) (kr1 := (78, 76)) (h1 := zS3 zh zi (-1) zg) rfl ?_
    exact jl_isWord_3 _ (by omega) q_ln q_r q_f q_c (by omega) (by omega) (fun zv q_v => ⟨by rw [q_v], rfl⟩) 20 0 (by omega) (fun k y => by omega) (by omega)
set_option maxRecDepth 20000 in
set_option maxHeartbeats 4000000 in
theorem jl_isWord_4 (zd : Nat) (q_d : 4 ≤ zd) {zh : am_H} {F : Int → Int} {zl : Int} {zi zb zg : Int} (q_ln : zh.1 55 9 = iN zl) (q_r : 0 ≤ zl ∧ zl ≤ 120) (q_f : ∀ k : Int, 0 ≤ k → k < zl → zh.1 59 k.toNat = iN (F k)) (q_c : ∀ k : Int, 0 ≤ k → k < zl → 32 ≤ F k ∧ F k ≤ 126) (q_i : 0 ≤ zb ∧ zi ≤ zl) (q_e : zi - zb = 4) {zQ : Option Value → am_H → Prop} (zk : ∀ zv : Int, zv = bI (zMt F 4 zb zi) (Classical.propDecidable _) → zQ (some (.int (iN zv))) (zS3 zh zi (-1) zg)) : ∀ (z_n : Nat) (zn : Nat) (q_n : zn ≤ 4) (q_w : ∀ k : Nat, k < zn → F (zb + (k : Int)) = zWb 4 k), (4 : Int) - zn < (z_n : Int) → am_wp zd am_m_Model_isWord 22 [(0, .ref 55), (1, .int (iN (zb))), (2, .ref 1010), (3, .int (iN (1))), (4, .int (iN ((zn : Int))))] [] (78, 76) (zS3 zh zi (-1) zg) (78, 76) zQ := by
  obtain ⟨zd, rfl⟩ : ∃ y_e, zd = y_e + 4 := ⟨zd - 4, by omega⟩
  intro z_n
  induction z_n with
  | zero => intro zn q_n q_w q_m; omega
  | succ z_n z_ih =>
    intro zn q_n q_w q_m
    refine wp_run (k := 2) (pc1 := 25) (l1 := [(0, .ref 55), (1, .int (iN (zb))), (2, .ref 1010), (3, .int (iN (1))), (4, .int (iN ((zn : Int))))]) (st1 := [.ref 1010, .int (iN ((zn : Int)))]) (kr1 := (78, 76)) (h1 := zS3 zh zi (-1) zg) rfl ?_
    refine wp_call (md1 := am_m_String_length) (As := [.ref 1010]) (rest := [.int (iN ((zn : Int)))]) (kr1 := (78, 76)) rfl (js_len_10 _ (by omega)) ?_
    rintro _ _ ⟨rfl, rfl⟩
    refine wp_ge (a := (zn : Int)) (b := 4) rfl (by omega) (by omega) (fun b_28 => ?_) (fun b_28 => ?_)
    · refine wp_run (k := 1) (pc1 := 66) (l1 := [(0, .ref 55), (1, .int (iN (zb))), (2, .ref 1010), (3, .int (iN (1))), (4, .int (iN ((zn : Int))))]) (st1 := [.int (iN (1))]) (kr1 := (78, 76)) (h1 := zS3 zh zi (-1) zg) rfl ?_
      refine wp_ret (rv := some (.int (iN (1)))) rfl ?_
      exact zk _ (if_pos ⟨by show zi - zb = 4; omega, fun k y => q_w k (by have y1 : k < 4 := y; omega)⟩).symm
    · refine wp_run (k := 1) (pc1 := 32) (l1 := [(0, .ref 55), (1, .int (iN (zb))), (2, .ref 1010), (3, .int (iN (1))), (4, .int (iN ((zn : Int))))]) (st1 := [.int (iN (1))]) (kr1 := (78, 76)) (h1 := zS3 zh zi (-1) zg) rfl ?_
      refine wp_eq0 (a := 1) rfl (by omega) (fun b_32 => ?_) (fun b_32 => ?_)
      · exact absurd b_32 (by decide)
      · have y_b := zWb_rg 4 zn
        have y_c := q_c (zb + (zn : Int)) (by omega) (by omega)
        refine wp_run (k := 5) (pc1 := 43) (l1 := [(0, .ref 55), (1, .int (iN (zb))), (2, .ref 1010), (3, .int (iN (1))), (4, .int (iN ((zn : Int))))]) (st1 := [.int (iN ((zb) + ((zn : Int)))), .ref 59]) (kr1 := (78, 76)) (h1 := zS3 zh zi (-1) zg) (Eq.trans (b := (some (43, [(0, .ref 55), (1, .int (iN (zb))), (2, .ref 1010), (3, .int (iN (1))), (4, .int (iN ((zn : Int))))], [.int ((iN (zb)) + (iN ((zn : Int)))), .ref 59], (78, 76), zS3 zh zi (-1) zg) : Option am_C)) rfl (by simp only [Int32.ofInt_add, Int32.ofInt_sub, Int32.ofInt_mul, Int32.ofInt_neg])) ?_
        refine wp_iald (f := (zS3 zh zi (-1) zg).1 59) (z := (zb) + ((zn : Int))) (j := (zb + (zn : Int)).toNat) (n := 120) (v := iN (F (zb + (zn : Int)))) rfl rfl (by omega) (by omega) (by decide) ((congrFun (zS3_c _ _ _ _ (by decide)) _).trans (q_f (zb + (zn : Int)) (by omega) (by omega))) ?_
        refine wp_run (k := 2) (pc1 := 47) (l1 := [(0, .ref 55), (1, .int (iN (zb))), (2, .ref 1010), (3, .int (iN (1))), (4, .int (iN ((zn : Int))))]) (st1 := [.int (iN ((zn : Int))), .ref 1010, .int (iN (F (zb + (zn : Int))))]) (kr1 := (78, 76)) (h1 := zS3 zh zi (-1) zg) rfl ?_
        refine wp_call (md1 := am_m_String_charAt) (As := [.ref 1010, .int (iN ((zn : Int)))]) (rest := [.int (iN (F (zb + (zn : Int))))]) (kr1 := (78, 76)) rfl (js_at_10 _ (by omega) (zi := zn) (by omega)) ?_
        rintro _ _ ⟨rfl, rfl⟩
        refine wp_ne (a := F (zb + (zn : Int))) (b := zWb 4 zn) rfl (by omega) (by omega) (fun b_50 => ?_) (fun b_50 => ?_)
        · refine wp_run (k := 4) (pc1 := 22) (l1 := [(0, .ref 55), (1, .int (iN (zb))), (2, .ref 1010), (3, .int (iN (0))), (4, .int (iN (((zn : Int)) + 1)))]) (st1 := []) (kr1 := (78, 76)) (h1 := zS3 zh zi (-1) zg) (Eq.trans (b := (some (22, [(0, .ref 55), (1, .int (iN (zb))), (2, .ref 1010), (3, .int (iN (0))), (4, .int ((iN ((zn : Int))) + iN (1)))], [], (78, 76), zS3 zh zi (-1) zg) : Option am_C)) rfl (by simp only [Int32.ofInt_add, Int32.ofInt_sub, Int32.ofInt_mul, Int32.ofInt_neg])) ?_
          refine wp_run (k := 2) (pc1 := 25) (l1 := [(0, .ref 55), (1, .int (iN (zb))), (2, .ref 1010), (3, .int (iN (0))), (4, .int (iN (((zn : Int)) + 1)))]) (st1 := [.ref 1010, .int (iN (((zn : Int)) + 1))]) (kr1 := (78, 76)) (h1 := zS3 zh zi (-1) zg) rfl ?_
          refine wp_call (md1 := am_m_String_length) (As := [.ref 1010]) (rest := [.int (iN (((zn : Int)) + 1))]) (kr1 := (78, 76)) rfl (js_len_10 _ (by omega)) ?_
          rintro _ _ ⟨rfl, rfl⟩
          refine wp_ge (a := ((zn : Int)) + 1) (b := 4) rfl (by omega) (by omega) (fun b_28 => ?_) (fun b_28 => ?_)
          · refine wp_run (k := 1) (pc1 := 66) (l1 := [(0, .ref 55), (1, .int (iN (zb))), (2, .ref 1010), (3, .int (iN (0))), (4, .int (iN (((zn : Int)) + 1)))]) (st1 := [.int (iN (0))]) (kr1 := (78, 76)) (h1 := zS3 zh zi (-1) zg) rfl ?_
            refine wp_ret (rv := some (.int (iN (0)))) rfl ?_
            exact zk _ (if_neg (fun y => by have y1 := y.2 zn (by show zn < 4; omega); omega)).symm
          · refine wp_run (k := 1) (pc1 := 32) (l1 := [(0, .ref 55), (1, .int (iN (zb))), (2, .ref 1010), (3, .int (iN (0))), (4, .int (iN (((zn : Int)) + 1)))]) (st1 := [.int (iN (0))]) (kr1 := (78, 76)) (h1 := zS3 zh zi (-1) zg) rfl ?_
            refine wp_eq0 (a := 0) rfl (by omega) (fun b_32 => ?_) (fun b_32 => ?_)
            · refine wp_run (k := 1) (pc1 := 66) (l1 := [(0, .ref 55), (1, .int (iN (zb))), (2, .ref 1010), (3, .int (iN (0))), (4, .int (iN (((zn : Int)) + 1)))]) (st1 := [.int (iN (0))]) (kr1 := (78, 76)) (h1 := zS3 zh zi (-1) zg) rfl ?_
              refine wp_ret (rv := some (.int (iN (0)))) rfl ?_
              exact zk _ (if_neg (fun y => by have y1 := y.2 zn (by show zn < 4; omega); omega)).symm
            · exact absurd b_32 (by decide)
        · refine wp_run (k := 5) (pc1 := 22) (l1 := [(0, .ref 55), (1, .int (iN (zb))), (2, .ref 1010), (3, .int (iN (1))), (4, .int (iN (((zn : Int)) + 1)))]) (st1 := []) (kr1 := (78, 76)) (h1 := zS3 zh zi (-1) zg) (Eq.trans (b := (some (22, [(0, .ref 55), (1, .int (iN (zb))), (2, .ref 1010), (3, .int (iN (1))), (4, .int ((iN ((zn : Int))) + iN (1)))], [], (78, 76), zS3 zh zi (-1) zg) : Option am_C)) rfl (by simp only [Int32.ofInt_add, Int32.ofInt_sub, Int32.ofInt_mul, Int32.ofInt_neg])) ?_
          refine z_ih (zn + 1) (by omega) (fun k y => ?_) (by omega)
          by_cases y1 : k = zn
          · rw [y1]; omega
          · exact q_w k (by omega)
set_option maxRecDepth 20000 in
set_option maxHeartbeats 4000000 in
theorem jm_isWord_4 (zd : Nat) (q_d : 4 ≤ zd) {zh : am_H} {F : Int → Int} {zl : Int} {zi zb zg : Int} (q_ln : zh.1 55 9 = iN zl) (q_r : 0 ≤ zl ∧ zl ≤ 120) (q_f : ∀ k : Int, 0 ≤ k → k < zl → zh.1 59 k.toNat = iN (F k)) (q_c : ∀ k : Int, 0 ≤ k → k < zl → 32 ≤ F k ∧ F k ≤ 126) (q_i : 0 ≤ zb ∧ zb ≤ zi ∧ zi ≤ zl) : am_wp zd am_m_Model_isWord 0 [(0, .ref 55), (1, .int (iN (zb))), (2, .ref 1010)] [] (78, 76) (zS3 zh zi (-1) zg) (78, 76) (fun rv h' => rv = some (.int (iN (bI (zMt F 4 zb zi) (Classical.propDecidable _)))) ∧ zS3 zh zi (-1) zg = h') := by
  obtain ⟨zd, rfl⟩ : ∃ y_e, zd = y_e + 4 := ⟨zd - 4, by omega⟩
  refine wp_run (k := 5) (pc1 := 7) (l1 := [(0, .ref 55), (1, .int (iN (zb))), (2, .ref 1010)]) (st1 := [.ref 1010, .int (iN ((zi) - (zb)))]) (kr1 := (78, 76)) (h1 := zS3 zh zi (-1) zg) (Eq.trans (b := (some (7, [(0, .ref 55), (1, .int (iN (zb))), (2, .ref 1010)], [.ref 1010, .int (((zS3 zh zi (-1) zg).1 55 8) - (iN (zb)))], (78, 76), zS3 zh zi (-1) zg) : Option am_C)) rfl (by simp only [(show (zS3 zh zi (-1) zg).1 55 8 = iN (zi) from (zS3_a _ _ _ _).1), Int32.ofInt_add, Int32.ofInt_sub, Int32.ofInt_mul, Int32.ofInt_neg])) ?_
  refine wp_call (md1 := am_m_String_length) (As := [.ref 1010]) (rest := [.int (iN ((zi) - (zb)))]) (kr1 := (78, 76)) rfl (js_len_10 _ (by omega)) ?_
  rintro _ _ ⟨rfl, rfl⟩
  refine wp_ne (a := (zi) - (zb)) (b := 4) rfl (by omega) (by omega) (fun b_10 => ?_) (fun b_10 => ?_)
  · refine wp_run (k := 4) (pc1 := 22) (l1 := [(0, .ref 55), (1, .int (iN (zb))), (2, .ref 1010), (3, .int (iN (0))), (4, .int (iN (0)))]) (st1 := []) (kr1 := (78, 76)) (h1 := zS3 zh zi (-1) zg) rfl ?_
    refine wp_run (k := 2) (pc1 := 25) (l1 := [(0, .ref 55), (1, .int (iN (zb))), (2, .ref 1010), (3, .int (iN (0))), (4, .int (iN (0)))]) (st1 := [.ref 1010, .int (iN (0))]) (kr1 := (78, 76)) (h1 := zS3 zh zi (-1) zg) rfl ?_
    refine wp_call (md1 := am_m_String_length) (As := [.ref 1010]) (rest := [.int (iN (0))]) (kr1 := (78, 76)) rfl (js_len_10 _ (by omega)) ?_
    rintro _ _ ⟨rfl, rfl⟩
    refine wp_ge (a := 0) (b := 4) rfl (by omega) (by omega) (fun b_28 => ?_) (fun b_28 => ?_)
    · exact absurd b_28 (by decide)
    · refine wp_run (k := 1) (pc1 := 32) (l1 := [(0, .ref 55), (1, .int (iN (zb))), (2, .ref 1010), (3, .int (iN (0))), (4, .int (iN (0)))]) (st1 := [.int (iN (0))]) (kr1 := (78, 76)) (h1 := zS3 zh zi (-1) zg) rfl ?_
      refine wp_eq0 (a := 0) rfl (by omega) (fun b_32 => ?_) (fun b_32 => ?_)
      · refine wp_run (k := 1) (pc1 := 66) (l1 := [(0, .ref 55), (1, .int (iN (zb))), (2, .ref 1010), (3, .int (iN (0))), (4, .int (iN (0)))]) (st1 := [.int (iN (0))]) (kr1 := (78, 76)) (h1 := zS3 zh zi (-1) zg) rfl ?_
        refine wp_ret (rv := some (.int (iN (0)))) rfl ?_
        exact ⟨by rw [show bI (zMt F 4 zb zi) (Classical.propDecidable _) = 0 from if_neg (fun y => by have y1 : zi - zb = 4 := y.1; omega)], rfl⟩
      · exact absurd b_32 (by decide)
  · refine wp_run (k := 5) (pc1 := 22) (l1 := [(0, .ref 55), (1, .int (iN (zb))), (2, .ref 1010), (3, .int (iN (1))), (4, .int (iN (0)))]) (st1 := []) (kr1 := (78, 76)) (h1 := zS3 zh zi (-1) zg) rfl ?_
    exact jl_isWord_4 _ (by omega) q_ln q_r q_f q_c (by omega) (by omega) (fun zv q_v => ⟨by rw [q_v], rfl⟩) 20 0 (by omega) (fun k y => by omega) (by omega)
set_option maxRecDepth 20000 in
set_option maxHeartbeats 4000000 in
theorem jl_isWord_5 (zd : Nat) (q_d : 4 ≤ zd) {zh : am_H} {F : Int → Int} {zl : Int} {zi zb zg : Int} (q_ln : zh.1 55 9 = iN zl) (q_r : 0 ≤ zl ∧ zl ≤ 120) (q_f : ∀ k : Int, 0 ≤ k → k < zl → zh.1 59 k.toNat = iN (F k)) (q_c : ∀ k : Int, 0 ≤ k → k < zl → 32 ≤ F k ∧ F k ≤ 126) (q_i : 0 ≤ zb ∧ zi ≤ zl) (q_e : zi - zb = 4) {zQ : Option Value → am_H → Prop} (zk : ∀ zv : Int, zv = bI (zMt F 5 zb zi) (Classical.propDecidable _) → zQ (some (.int (iN zv))) (zS3 zh zi (-1) zg)) : ∀ (z_n : Nat) (zn : Nat) (q_n : zn ≤ 4) (q_w : ∀ k : Nat, k < zn → F (zb + (k : Int)) = zWb 5 k), (4 : Int) - zn < (z_n : Int) → am_wp zd am_m_Model_isWord 22 [(0, .ref 55), (1, .int (iN (zb))), (2, .ref 1011), (3, .int (iN (1))), (4, .int (iN ((zn : Int))))] [] (78, 76) (zS3 zh zi (-1) zg) (78, 76) zQ := by
  obtain ⟨zd, rfl⟩ : ∃ y_e, zd = y_e + 4 := ⟨zd - 4, by omega⟩
  intro z_n
  induction z_n with
  | zero => intro zn q_n q_w q_m; omega
  | succ z_n z_ih =>
    intro zn q_n q_w q_m
    refine wp_run (k := 2) (pc1 := 25) (l1 := [(0, .ref 55), (1, .int (iN (zb))), (2, .ref 1011), (3, .int (iN (1))), (4, .int (iN ((zn : Int))))]) (st1 := [.ref 1011, .int (iN ((zn : Int)))]) (kr1 := (78, 76)) (h1 := zS3 zh zi (-1) zg) rfl ?_
    refine wp_call (md1 := am_m_String_length) (As := [.ref 1011]) (rest := [.int (iN ((zn : Int)))]) (kr1 := (78, 76)) rfl (js_len_11 _ (by omega)) ?_
    rintro _ _ ⟨rfl, rfl⟩
    refine wp_ge (a := (zn : Int)) (b := 4) rfl (by omega) (by omega) (fun b_28 => ?_) (fun b_28 => ?_)
    · refine wp_run (k := 1) (pc1 := 66) (l1 := [(0, .ref 55), (1, .int (iN (zb))), (2, .ref 1011), (3, .int (iN (1))), (4, .int (iN ((zn : Int))))]) (st1 := [.int (iN (1))]) (kr1 := (78, 76)) (h1 := zS3 zh zi (-1) zg) rfl ?_
      refine wp_ret (rv := some (.int (iN (1)))) rfl ?_
      exact zk _ (if_pos ⟨by show zi - zb = 4; omega, fun k y => q_w k (by have y1 : k < 4 := y; omega)⟩).symm
    · refine wp_run (k := 1) (pc1 := 32) (l1 := [(0, .ref 55), (1, .int (iN (zb))), (2, .ref 1011), (3, .int (iN (1))), (4, .int (iN ((zn : Int))))]) (st1 := [.int (iN (1))]) (kr1 := (78, 76)) (h1 := zS3 zh zi (-1) zg) rfl ?_
      refine wp_eq0 (a := 1) rfl (by omega) (fun b_32 => ?_) (fun b_32 => ?_)
      · exact absurd b_32 (by decide)
      · have y_b := zWb_rg 5 zn
        have y_c := q_c (zb + (zn : Int)) (by omega) (by omega)
        refine wp_run (k := 5) (pc1 := 43) (l1 := [(0, .ref 55), (1, .int (iN (zb))), (2, .ref 1011), (3, .int (iN (1))), (4, .int (iN ((zn : Int))))]) (st1 := [.int (iN ((zb) + ((zn : Int)))), .ref 59]) (kr1 := (78, 76)) (h1 := zS3 zh zi (-1) zg) (Eq.trans (b := (some (43, [(0, .ref 55), (1, .int (iN (zb))), (2, .ref 1011), (3, .int (iN (1))), (4, .int (iN ((zn : Int))))], [.int ((iN (zb)) + (iN ((zn : Int)))), .ref 59], (78, 76), zS3 zh zi (-1) zg) : Option am_C)) rfl (by simp only [Int32.ofInt_add, Int32.ofInt_sub, Int32.ofInt_mul, Int32.ofInt_neg])) ?_
        refine wp_iald (f := (zS3 zh zi (-1) zg).1 59) (z := (zb) + ((zn : Int))) (j := (zb + (zn : Int)).toNat) (n := 120) (v := iN (F (zb + (zn : Int)))) rfl rfl (by omega) (by omega) (by decide) ((congrFun (zS3_c _ _ _ _ (by decide)) _).trans (q_f (zb + (zn : Int)) (by omega) (by omega))) ?_
        refine wp_run (k := 2) (pc1 := 47) (l1 := [(0, .ref 55), (1, .int (iN (zb))), (2, .ref 1011), (3, .int (iN (1))), (4, .int (iN ((zn : Int))))]) (st1 := [.int (iN ((zn : Int))), .ref 1011, .int (iN (F (zb + (zn : Int))))]) (kr1 := (78, 76)) (h1 := zS3 zh zi (-1) zg) rfl ?_
        refine wp_call (md1 := am_m_String_charAt) (As := [.ref 1011, .int (iN ((zn : Int)))]) (rest := [.int (iN (F (zb + (zn : Int))))]) (kr1 := (78, 76)) rfl (js_at_11 _ (by omega) (zi := zn) (by omega)) ?_
        rintro _ _ ⟨rfl, rfl⟩
        refine wp_ne (a := F (zb + (zn : Int))) (b := zWb 5 zn) rfl (by omega) (by omega) (fun b_50 => ?_) (fun b_50 => ?_)
        · refine wp_run (k := 4) (pc1 := 22) (l1 := [(0, .ref 55), (1, .int (iN (zb))), (2, .ref 1011), (3, .int (iN (0))), (4, .int (iN (((zn : Int)) + 1)))]) (st1 := []) (kr1 := (78, 76)) (h1 := zS3 zh zi (-1) zg) (Eq.trans (b := (some (22, [(0, .ref 55), (1, .int (iN (zb))), (2, .ref 1011), (3, .int (iN (0))), (4, .int ((iN ((zn : Int))) + iN (1)))], [], (78, 76), zS3 zh zi (-1) zg) : Option am_C)) rfl (by simp only [Int32.ofInt_add, Int32.ofInt_sub, Int32.ofInt_mul, Int32.ofInt_neg])) ?_
          refine wp_run (k := 2) (pc1 := 25) (l1 := [(0, .ref 55), (1, .int (iN (zb))), (2, .ref 1011), (3, .int (iN (0))), (4, .int (iN (((zn : Int)) + 1)))]) (st1 := [.ref 1011, .int (iN (((zn : Int)) + 1))]) (kr1 := (78, 76)) (h1 := zS3 zh zi (-1) zg) rfl ?_
          refine wp_call (md1 := am_m_String_length) (As := [.ref 1011]) (rest := [.int (iN (((zn : Int)) + 1))]) (kr1 := (78, 76)) rfl (js_len_11 _ (by omega)) ?_
          rintro _ _ ⟨rfl, rfl⟩
          refine wp_ge (a := ((zn : Int)) + 1) (b := 4) rfl (by omega) (by omega) (fun b_28 => ?_) (fun b_28 => ?_)
          · refine wp_run (k := 1) (pc1 := 66) (l1 := [(0, .ref 55), (1, .int (iN (zb))), (2, .ref 1011), (3, .int (iN (0))), (4, .int (iN (((zn : Int)) + 1)))]) (st1 := [.int (iN (0))]) (kr1 := (78, 76)) (h1 := zS3 zh zi (-1) zg) rfl ?_
            refine wp_ret (rv := some (.int (iN (0)))) rfl ?_
            exact zk _ (if_neg (fun y => by have y1 := y.2 zn (by show zn < 4; omega); omega)).symm
          · refine wp_run (k := 1) (pc1 := 32) (l1 := [(0, .ref 55), (1, .int (iN (zb))), (2, .ref 1011), (3, .int (iN (0))), (4, .int (iN (((zn : Int)) + 1)))]) (st1 := [.int (iN (0))]) (kr1 := (78, 76)) (h1 := zS3 zh zi (-1) zg) rfl ?_
            refine wp_eq0 (a := 0) rfl (by omega) (fun b_32 => ?_) (fun b_32 => ?_)
            · refine wp_run (k := 1) (pc1 := 66) (l1 := [(0, .ref 55), (1, .int (iN (zb))), (2, .ref 1011), (3, .int (iN (0))), (4, .int (iN (((zn : Int)) + 1)))]) (st1 := [.int (iN (0))]) (kr1 := (78, 76)) (h1 := zS3 zh zi (-1) zg) rfl ?_
              refine wp_ret (rv := some (.int (iN (0)))) rfl ?_
              exact zk _ (if_neg (fun y => by have y1 := y.2 zn (by show zn < 4; omega); omega)).symm
            · exact absurd b_32 (by decide)
        · refine wp_run (k := 5) (pc1 := 22) (l1 := [(0, .ref 55), (1, .int (iN (zb))), (2, .ref 1011), (3, .int (iN (1))), (4, .int (iN (((zn : Int)) + 1)))]) (st1 := []) (kr1 := (78, 76)) (h1 := zS3 zh zi (-1) zg) (Eq.trans (b := (some (22, [(0, .ref 55), (1, .int (iN (zb))), (2, .ref 1011), (3, .int (iN (1))), (4, .int ((iN ((zn : Int))) + iN (1)))], [], (78, 76), zS3 zh zi (-1) zg) : Option am_C)) rfl (by simp only [Int32.ofInt_add, Int32.ofInt_sub, Int32.ofInt_mul, Int32.ofInt_neg])) ?_
          refine z_ih (zn + 1) (by omega) (fun k y => ?_) (by omega)
          by_cases y1 : k = zn
          · rw [y1]; omega
          · exact q_w k (by omega)
set_option maxRecDepth 20000 in
set_option maxHeartbeats 4000000 in
theorem jm_isWord_5 (zd : Nat) (q_d : 4 ≤ zd) {zh : am_H} {F : Int → Int} {zl : Int} {zi zb zg : Int} (q_ln : zh.1 55 9 = iN zl) (q_r : 0 ≤ zl ∧ zl ≤ 120) (q_f : ∀ k : Int, 0 ≤ k → k < zl → zh.1 59 k.toNat = iN (F k)) (q_c : ∀ k : Int, 0 ≤ k → k < zl → 32 ≤ F k ∧ F k ≤ 126) (q_i : 0 ≤ zb ∧ zb ≤ zi ∧ zi ≤ zl) : am_wp zd am_m_Model_isWord 0 [(0, .ref 55), (1, .int (iN (zb))), (2, .ref 1011)] [] (78, 76) (zS3 zh zi (-1) zg) (78, 76) (fun rv h' => rv = some (.int (iN (bI (zMt F 5 zb zi) (Classical.propDecidable _)))) ∧ zS3 zh zi (-1) zg = h') := by
  obtain ⟨zd, rfl⟩ : ∃ y_e, zd = y_e + 4 := ⟨zd - 4, by omega⟩
  refine wp_run (k := 5) (pc1 := 7) (l1 := [(0, .ref 55), (1, .int (iN (zb))), (2, .ref 1011)]) (st1 := [.ref 1011, .int (iN ((zi) - (zb)))]) (kr1 := (78, 76)) (h1 := zS3 zh zi (-1) zg) (Eq.trans (b := (some (7, [(0, .ref 55), (1, .int (iN (zb))), (2, .ref 1011)], [.ref 1011, .int (((zS3 zh zi (-1) zg).1 55 8) - (iN (zb)))], (78, 76), zS3 zh zi (-1) zg) : Option am_C)) rfl (by simp only [(show (zS3 zh zi (-1) zg).1 55 8 = iN (zi) from (zS3_a _ _ _ _).1), Int32.ofInt_add, Int32.ofInt_sub, Int32.ofInt_mul, Int32.ofInt_neg])) ?_
  refine wp_call (md1 := am_m_String_length) (As := [.ref 1011]) (rest := [.int (iN ((zi) - (zb)))]) (kr1 := (78, 76)) rfl (js_len_11 _ (by omega)) ?_
  rintro _ _ ⟨rfl, rfl⟩
  refine wp_ne (a := (zi) - (zb)) (b := 4) rfl (by omega) (by omega) (fun b_10 => ?_) (fun b_10 => ?_)
  · refine wp_run (k := 4) (pc1 := 22) (l1 := [(0, .ref 55), (1, .int (iN (zb))), (2, .ref 1011), (3, .int (iN (0))), (4, .int (iN (0)))]) (st1 := []) (kr1 := (78, 76)) (h1 := zS3 zh zi (-1) zg) rfl ?_
    refine wp_run (k := 2) (pc1 := 25) (l1 := [(0, .ref 55), (1, .int (iN (zb))), (2, .ref 1011), (3, .int (iN (0))), (4, .int (iN (0)))]) (st1 := [.ref 1011, .int (iN (0))]) (kr1 := (78, 76)) (h1 := zS3 zh zi (-1) zg) rfl ?_
    refine wp_call (md1 := am_m_String_length) (As := [.ref 1011]) (rest := [.int (iN (0))]) (kr1 := (78, 76)) rfl (js_len_11 _ (by omega)) ?_
    rintro _ _ ⟨rfl, rfl⟩
    refine wp_ge (a := 0) (b := 4) rfl (by omega) (by omega) (fun b_28 => ?_) (fun b_28 => ?_)
    · exact absurd b_28 (by decide)
    · refine wp_run (k := 1) (pc1 := 32) (l1 := [(0, .ref 55), (1, .int (iN (zb))), (2, .ref 1011), (3, .int (iN (0))), (4, .int (iN (0)))]) (st1 := [.int (iN (0))]) (kr1 := (78, 76)) (h1 := zS3 zh zi (-1) zg) rfl ?_
      refine wp_eq0 (a := 0) rfl (by omega) (fun b_32 => ?_) (fun b_32 => ?_)
      · refine wp_run (k := 1) (pc1 := 66) (l1 := [(0, .ref 55), (1, .int (iN (zb))), (2, .ref 1011), (3, .int (iN (0))), (4, .int (iN (0)))]) (st1 := [.int (iN (0))]) (kr1 := (78, 76)) (h1 := zS3 zh zi (-1) zg) rfl ?_
        refine wp_ret (rv := some (.int (iN (0)))) rfl ?_
        exact ⟨by rw [show bI (zMt F 5 zb zi) (Classical.propDecidable _) = 0 from if_neg (fun y => by have y1 : zi - zb = 4 := y.1; omega)], rfl⟩
      · exact absurd b_32 (by decide)
  · refine wp_run (k := 5) (pc1 := 22) (l1 := [(0, .ref 55), (1, .int (iN (zb))), (2, .ref 1011), (3, .int (iN (1))), (4, .int (iN (0)))]) (st1 := []) (kr1 := (78, 76)) (h1 := zS3 zh zi (-1) zg) rfl ?_
    exact jl_isWord_5 _ (by omega) q_ln q_r q_f q_c (by omega) (by omega) (fun zv q_v => ⟨by rw [q_v], rfl⟩) 20 0 (by omega) (fun k y => by omega) (by omega)
