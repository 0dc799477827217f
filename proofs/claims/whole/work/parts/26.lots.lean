/-! THE CLASS's Lots: frames, leaves -/
/-- all but some cells stand as they stood -/
def am_fr (ks : List Nat) (zh zg : am_H) : Prop := zg.2 = zh.2 ∧ ∀ c : Nat, c ∉ ks → zg.1 c = zh.1 c
theorem am_fr_0 (ks : List Nat) (zh : am_H) : am_fr ks zh zh := ⟨rfl, fun _ _ => rfl⟩
theorem am_fr_t {ks : List Nat} {zh zg zk : am_H} (q1 : am_fr ks zh zg) (q2 : am_fr ks zg zk) : am_fr ks zh zk := ⟨q2.1.trans q1.1, fun c q => (q2.2 c q).trans (q1.2 c q)⟩
theorem am_fr_w {ks : List Nat} {zh zg : am_H} (q1 : am_fr ks zh zg) {zc : Nat} (q2 : zc ∈ ks) (zj : Nat) (zv : Int32) : am_fr ks zh (am_wr zg zc zj zv) := ⟨q1.1, fun c q => (am_wr_ne (fun y => q (by rw [y]; exact q2))).trans (q1.2 c q)⟩
theorem am_fr_m {ks ks' : List Nat} {zh zg : am_H} (q1 : am_fr ks zh zg) (q2 : ∀ c, c ∈ ks → c ∈ ks') : am_fr ks' zh zg := ⟨q1.1, fun c q => q1.2 c (fun y => q (q2 c y))⟩
theorem am_fr_r {ks : List Nat} {zh zg : am_H} (q1 : am_fr ks zh zg) {zc : Nat} (q2 : zc ∈ ks) (zf : Nat → Int32) : am_fr ks zh (am_row zg zc zf) := ⟨q1.1, fun c q => (am_row_n _ _ _ (fun y => q (by rw [y]; exact q2))).trans (q1.2 c q)⟩
theorem zNm_f {ks : List Nat} {zh zg : am_H} {a b : Nat} {N : Int} {G : Int → Int → Int} {S T : Int} (q : am_fr ks zh zg) (q_nm : zNm (zh.1 a) (zh.1 b) N G S T) (q1 : a ∉ ks) (q2 : b ∉ ks) : zNm (zg.1 a) (zg.1 b) N G S T := by
  rw [q.2 a q1, q.2 b q2]; exact q_nm
theorem zMm_f {ks : List Nat} {zh zg : am_H} {a b : Nat} {N : Int} {G : Int → Int → Int} {S T : Int} (q : am_fr ks zh zg) (q_nm : zMm (zh.1 a) (zh.1 b) N G S T) (q1 : a ∉ ks) (q2 : b ∉ ks) : zMm (zg.1 a) (zg.1 b) N G S T := by
  rw [q.2 a q1, q.2 b q2]; exact q_nm
theorem am_wr_at {zh : am_H} {zc zj : Nat} {zv : Int32} : (am_wr zh zc zj zv).1 zc zj = zv := by rw [am_wr_eq, if_pos rfl]
theorem am_wr_no {zh : am_H} {zc zj zi : Nat} {zv : Int32} (q : zi ≠ zj) : (am_wr zh zc zj zv).1 zc zi = zh.1 zc zi := by rw [am_wr_eq, if_neg q]
/-- the lot a .. b, made in one of the first k periods of it: least cost (1000000000: none), where first, in how many -/
def zLc (G : Int → Int → Int) (T a b : Int) : Nat → Int
  | 0 => 1000000000
  | k + 1 => if zIsL G T a b (a + k) ∧ zCo G a b (a + k) < zLc G T a b k then zCo G a b (a + k) else zLc G T a b k
def zLm (G : Int → Int → Int) (T a b : Int) : Nat → Int
  | 0 => 0
  | k + 1 => if zIsL G T a b (a + k) ∧ zCo G a b (a + k) < zLc G T a b k then a + k else zLm G T a b k
def zLw (G : Int → Int → Int) (T a b : Int) : Nat → Int
  | 0 => 0
  | k + 1 => if zIsL G T a b (a + k) ∧ zCo G a b (a + k) < zLc G T a b k then 1 else if zIsL G T a b (a + k) ∧ zCo G a b (a + k) = zLc G T a b k then zLw G T a b k + 1 else zLw G T a b k
set_option maxRecDepth 20000 in
set_option maxHeartbeats 4000000 in
theorem jt_lpieces_4 (zd : Nat) (q_d : 1 ≤ zd) {zh : am_H} {N : Int} {G : Int → Int → Int} {za zb : Int} (q_ah : ∀ k : Int, 0 ≤ k → k ≤ N → zh.1 8 k.toNat = iN (zPi G k)) (q_N : N ≤ 16) (q_0 : 0 ≤ za ∧ za ≤ zb + 1 ∧ zb < N) : am_wp zd am_m_Lots_pieces 0 [(0, .ref 4), (1, .int (iN (za))), (2, .int (iN (zb)))] [] (78, 76) zh (78, 76) (fun rv h' => rv = some (.int (iN (zD G za zb))) ∧ zh = h') := by
  obtain ⟨zd, rfl⟩ : ∃ y_e, zd = y_e + 1 := ⟨zd - 1, by omega⟩
  refine wp_run (k := 5) (pc1 := 7) (l1 := [(0, .ref 4), (1, .int (iN (za))), (2, .int (iN (zb)))]) (st1 := [.int (iN ((zb) + (1))), .ref 8]) (kr1 := (78, 76)) (h1 := zh) (Eq.trans (b := (some (7, [(0, .ref 4), (1, .int (iN (za))), (2, .int (iN (zb)))], [.int ((iN (zb)) + (iN (1))), .ref 8], (78, 76), zh) : Option am_C)) rfl (by simp only [Int32.ofInt_add, Int32.ofInt_sub, Int32.ofInt_mul, Int32.ofInt_neg])) ?_
  refine wp_call (md1 := am_m_Lp_at) (As := [.ref 8, .int (iN ((zb) + (1)))]) (rest := []) (kr1 := (78, 76)) rfl (jt_at _ (by omega) (zn := 17) (zi := (zb) + (1)) (zv := iN (zPi G ((zb) + (1)))) rfl rfl (by decide) (by omega) (by omega) (q_ah ((zb) + (1)) (by omega) (by omega))) ?_
  rintro _ _ ⟨rfl, rfl⟩
  refine wp_run (k := 3) (pc1 := 15) (l1 := [(0, .ref 4), (1, .int (iN (za))), (2, .int (iN (zb)))]) (st1 := [.int (iN (za)), .ref 8, .int (iN (zPi G ((zb) + (1))))]) (kr1 := (78, 76)) (h1 := zh) rfl ?_
  refine wp_call (md1 := am_m_Lp_at) (As := [.ref 8, .int (iN (za))]) (rest := [.int (iN (zPi G ((zb) + (1))))]) (kr1 := (78, 76)) rfl (jt_at _ (by omega) (zn := 17) (zi := za) (zv := iN (zPi G (za))) rfl rfl (by decide) (by omega) (by omega) (q_ah (za) (by omega) (by omega))) ?_
  rintro _ _ ⟨rfl, rfl⟩
  refine wp_run (k := 1) (pc1 := 19) (l1 := [(0, .ref 4), (1, .int (iN (za))), (2, .int (iN (zb)))]) (st1 := [.int (iN ((zPi G ((zb) + (1))) - (zPi G (za))))]) (kr1 := (78, 76)) (h1 := zh) (Eq.trans (b := (some (19, [(0, .ref 4), (1, .int (iN (za))), (2, .int (iN (zb)))], [.int ((iN (zPi G ((zb) + (1)))) - (iN (zPi G (za))))], (78, 76), zh) : Option am_C)) rfl (by simp only [Int32.ofInt_add, Int32.ofInt_sub, Int32.ofInt_mul, Int32.ofInt_neg])) ?_
  refine wp_ret (rv := some (.int (iN ((zPi G ((zb) + (1))) - (zPi G (za)))))) rfl ?_
  exact ⟨rfl, rfl⟩
set_option maxRecDepth 20000 in
set_option maxHeartbeats 4000000 in
theorem jt_costOf_4 (zd : Nat) (q_d : 1 ≤ zd) {zh : am_H} {za zb zv : Int} (q_0 : 0 ≤ za ∧ za < 16 ∧ 0 ≤ zb ∧ zb < 16) (q_v : zh.1 5 (16 * za + zb).toNat = iN zv) : am_wp zd am_m_Lots_costOf 0 [(0, .ref 4), (1, .int (iN (za))), (2, .int (iN (zb)))] [] (78, 76) zh (78, 76) (fun rv h' => rv = some (.int (iN zv)) ∧ zh = h') := by
  obtain ⟨zd, rfl⟩ : ∃ y_e, zd = y_e + 1 := ⟨zd - 1, by omega⟩
  refine wp_run (k := 7) (pc1 := 10) (l1 := [(0, .ref 4), (1, .int (iN (za))), (2, .int (iN (zb)))]) (st1 := [.int (iN (((za) * (16)) + (zb))), .ref 5]) (kr1 := (78, 76)) (h1 := zh) (Eq.trans (b := (some (10, [(0, .ref 4), (1, .int (iN (za))), (2, .int (iN (zb)))], [.int (((iN (za)) * (iN (16))) + (iN (zb))), .ref 5], (78, 76), zh) : Option am_C)) rfl (by simp only [Int32.ofInt_add, Int32.ofInt_sub, Int32.ofInt_mul, Int32.ofInt_neg])) ?_
  refine wp_call (md1 := am_m_Lp_at) (As := [.ref 5, .int (iN (((za) * (16)) + (zb)))]) (rest := []) (kr1 := (78, 76)) rfl (jt_at _ (by omega) (zn := 256) (zi := ((za) * (16)) + (zb)) (zv := iN zv) rfl rfl (by decide) (by omega) (by omega) ((congrArg (zh.1 5) (by omega)).trans q_v)) ?_
  rintro _ _ ⟨rfl, rfl⟩
  refine wp_ret (rv := some (.int (iN zv))) rfl ?_
  exact ⟨rfl, rfl⟩
set_option maxRecDepth 20000 in
set_option maxHeartbeats 4000000 in
theorem jt_makerOf_4 (zd : Nat) (q_d : 1 ≤ zd) {zh : am_H} {za zb zv : Int} (q_0 : 0 ≤ za ∧ za < 16 ∧ 0 ≤ zb ∧ zb < 16) (q_v : zh.1 6 (16 * za + zb).toNat = iN zv) : am_wp zd am_m_Lots_makerOf 0 [(0, .ref 4), (1, .int (iN (za))), (2, .int (iN (zb)))] [] (78, 76) zh (78, 76) (fun rv h' => rv = some (.int (iN zv)) ∧ zh = h') := by
  obtain ⟨zd, rfl⟩ : ∃ y_e, zd = y_e + 1 := ⟨zd - 1, by omega⟩
  refine wp_run (k := 7) (pc1 := 10) (l1 := [(0, .ref 4), (1, .int (iN (za))), (2, .int (iN (zb)))]) (st1 := [.int (iN (((za) * (16)) + (zb))), .ref 6]) (kr1 := (78, 76)) (h1 := zh) (Eq.trans (b := (some (10, [(0, .ref 4), (1, .int (iN (za))), (2, .int (iN (zb)))], [.int (((iN (za)) * (iN (16))) + (iN (zb))), .ref 6], (78, 76), zh) : Option am_C)) rfl (by simp only [Int32.ofInt_add, Int32.ofInt_sub, Int32.ofInt_mul, Int32.ofInt_neg])) ?_
  refine wp_call (md1 := am_m_Lp_at) (As := [.ref 6, .int (iN (((za) * (16)) + (zb)))]) (rest := []) (kr1 := (78, 76)) rfl (jt_at _ (by omega) (zn := 256) (zi := ((za) * (16)) + (zb)) (zv := iN zv) rfl rfl (by decide) (by omega) (by omega) ((congrArg (zh.1 6) (by omega)).trans q_v)) ?_
  rintro _ _ ⟨rfl, rfl⟩
  refine wp_ret (rv := some (.int (iN zv))) rfl ?_
  exact ⟨rfl, rfl⟩
set_option maxRecDepth 20000 in
set_option maxHeartbeats 4000000 in
theorem jt_waysOf_4 (zd : Nat) (q_d : 1 ≤ zd) {zh : am_H} {za zb zv : Int} (q_0 : 0 ≤ za ∧ za < 16 ∧ 0 ≤ zb ∧ zb < 16) (q_v : zh.1 7 (16 * za + zb).toNat = iN zv) : am_wp zd am_m_Lots_waysOf 0 [(0, .ref 4), (1, .int (iN (za))), (2, .int (iN (zb)))] [] (78, 76) zh (78, 76) (fun rv h' => rv = some (.int (iN zv)) ∧ zh = h') := by
  obtain ⟨zd, rfl⟩ : ∃ y_e, zd = y_e + 1 := ⟨zd - 1, by omega⟩
  refine wp_run (k := 7) (pc1 := 10) (l1 := [(0, .ref 4), (1, .int (iN (za))), (2, .int (iN (zb)))]) (st1 := [.int (iN (((za) * (16)) + (zb))), .ref 7]) (kr1 := (78, 76)) (h1 := zh) (Eq.trans (b := (some (10, [(0, .ref 4), (1, .int (iN (za))), (2, .int (iN (zb)))], [.int (((iN (za)) * (iN (16))) + (iN (zb))), .ref 7], (78, 76), zh) : Option am_C)) rfl (by simp only [Int32.ofInt_add, Int32.ofInt_sub, Int32.ofInt_mul, Int32.ofInt_neg])) ?_
  refine wp_call (md1 := am_m_Lp_at) (As := [.ref 7, .int (iN (((za) * (16)) + (zb)))]) (rest := []) (kr1 := (78, 76)) rfl (jt_at _ (by omega) (zn := 256) (zi := ((za) * (16)) + (zb)) (zv := iN zv) rfl rfl (by decide) (by omega) (by omega) ((congrArg (zh.1 7) (by omega)).trans q_v)) ?_
  rintro _ _ ⟨rfl, rfl⟩
  refine wp_ret (rv := some (.int (iN zv))) rfl ?_
  exact ⟨rfl, rfl⟩
set_option maxRecDepth 20000 in
set_option maxHeartbeats 4000000 in
theorem jt_offer_4 (zd : Nat) (q_d : 1 ≤ zd) {zh : am_H} {zi zm zv zc : Int} (q_i : 0 ≤ zi ∧ zi < 256) (q_c : zh.1 5 zi.toNat = iN zc) (q_v : -2147483648 ≤ zv ∧ zv < 2147483648) (q_z : -2147483648 ≤ zc ∧ zc < 2147483648) : am_wp zd am_m_Lots_offer 0 [(0, .ref 4), (1, .int (iN (zi))), (2, .int (iN (zm))), (3, .int (iN (zv)))] [] (78, 76) zh (78, 76) (fun rv h' => rv = none ∧ ((zv < zc ∧ am_wr (am_wr (am_wr zh 5 zi.toNat (iN zv)) 6 zi.toNat (iN zm)) 7 zi.toNat (iN 1) = h') ∨ (zv = zc ∧ am_wr zh 7 zi.toNat (zh.1 7 zi.toNat + iN 1) = h') ∨ (zc < zv ∧ zh = h'))) := by
  obtain ⟨zd, rfl⟩ : ∃ y_e, zd = y_e + 1 := ⟨zd - 1, by omega⟩
  refine wp_run (k := 3) (pc1 := 5) (l1 := [(0, .ref 4), (1, .int (iN (zi))), (2, .int (iN (zm))), (3, .int (iN (zv)))]) (st1 := [.int (iN (zi)), .ref 5]) (kr1 := (78, 76)) (h1 := zh) rfl ?_
  refine wp_call (md1 := am_m_Lp_at) (As := [.ref 5, .int (iN (zi))]) (rest := []) (kr1 := (78, 76)) rfl (jt_at _ (by omega) (zn := 256) (zi := zi) (zv := iN zc) rfl rfl (by decide) (by omega) (by omega) (q_c)) ?_
  rintro _ _ ⟨rfl, rfl⟩
  refine wp_run (k := 3) (pc1 := 13) (l1 := [(0, .ref 4), (1, .int (iN (zi))), (2, .int (iN (zm))), (3, .int (iN (zv))), (4, .int (iN (zc)))]) (st1 := [.int (iN (zc)), .int (iN (zv))]) (kr1 := (78, 76)) (h1 := zh) (Eq.trans (b := (some (13, [(0, .ref 4), (1, .int (iN (zi))), (2, .int (iN (zm))), (3, .int (iN (zv))), (4, .int (iN zc))], [.int (iN zc), .int (iN (zv))], (78, 76), zh) : Option am_C)) rfl (by simp only [Int32.ofInt_add, Int32.ofInt_sub, Int32.ofInt_mul, Int32.ofInt_neg])) ?_
  refine wp_ge (a := zv) (b := zc) rfl (by omega) (by omega) (fun b_13 => ?_) (fun b_13 => ?_)
  · refine wp_run (k := 2) (pc1 := 49) (l1 := [(0, .ref 4), (1, .int (iN (zi))), (2, .int (iN (zm))), (3, .int (iN (zv))), (4, .int (iN (zc)))]) (st1 := [.int (iN (zc)), .int (iN (zv))]) (kr1 := (78, 76)) (h1 := zh) rfl ?_
    refine wp_ne (a := zv) (b := zc) rfl (by omega) (by omega) (fun b_49 => ?_) (fun b_49 => ?_)
    · refine wp_ret (rv := none) rfl ?_
      exact ⟨rfl, Or.inr (Or.inr ⟨by omega, rfl⟩)⟩
    · refine wp_run (k := 6) (pc1 := 62) (l1 := [(0, .ref 4), (1, .int (iN (zi))), (2, .int (iN (zm))), (3, .int (iN (zv))), (4, .int (iN (zc)))]) (st1 := [.int (iN (zi)), .ref 7, .int (iN (zi)), .ref 7]) (kr1 := (78, 76)) (h1 := zh) rfl ?_
      refine wp_call (md1 := am_m_Lp_at) (As := [.ref 7, .int (iN (zi))]) (rest := [.int (iN (zi)), .ref 7]) (kr1 := (78, 76)) rfl (jt_at _ (by omega) (zn := 256) (zi := zi) (zv := zh.1 7 zi.toNat) rfl rfl (by decide) (by omega) (by omega) (rfl)) ?_
      rintro _ _ ⟨rfl, rfl⟩
      refine wp_run (k := 2) (pc1 := 67) (l1 := [(0, .ref 4), (1, .int (iN (zi))), (2, .int (iN (zm))), (3, .int (iN (zv))), (4, .int (iN (zc)))]) (st1 := [.int ((zh.1 7 zi.toNat) + (iN (1))), .int (iN (zi)), .ref 7]) (kr1 := (78, 76)) (h1 := zh) rfl ?_
      refine wp_call (md1 := am_m_Lp_lay) (As := [.ref 7, .int (iN (zi)), .int ((zh.1 7 zi.toNat) + (iN (1)))]) (rest := []) (kr1 := (78, 76)) rfl (jt_lay _ (by omega) (zn := 256) (zi := zi) (zv := (zh.1 7 zi.toNat) + (iN (1))) (by decide) (by decide) rfl rfl rfl (by decide) (by omega) (by omega)) ?_
      rintro _ _ ⟨rfl, rfl⟩
      refine wp_ret (rv := none) rfl ?_
      exact ⟨rfl, Or.inr (Or.inl ⟨by omega, rfl⟩)⟩
  · refine wp_run (k := 4) (pc1 := 22) (l1 := [(0, .ref 4), (1, .int (iN (zi))), (2, .int (iN (zm))), (3, .int (iN (zv))), (4, .int (iN (zc)))]) (st1 := [.int (iN (zv)), .int (iN (zi)), .ref 5]) (kr1 := (78, 76)) (h1 := zh) rfl ?_
    refine wp_call (md1 := am_m_Lp_lay) (As := [.ref 5, .int (iN (zi)), .int (iN (zv))]) (rest := []) (kr1 := (78, 76)) rfl (jt_lay _ (by omega) (zn := 256) (zi := zi) (zv := iN (zv)) (by decide) (by decide) rfl rfl rfl (by decide) (by omega) (by omega)) ?_
    rintro _ _ ⟨rfl, rfl⟩
    refine wp_run (k := 4) (pc1 := 31) (l1 := [(0, .ref 4), (1, .int (iN (zi))), (2, .int (iN (zm))), (3, .int (iN (zv))), (4, .int (iN (zc)))]) (st1 := [.int (iN (zm)), .int (iN (zi)), .ref 6]) (kr1 := (78, 76)) (h1 := am_wr zh 5 (zi : Int).toNat (iN (zv))) rfl ?_
    refine wp_call (md1 := am_m_Lp_lay) (As := [.ref 6, .int (iN (zi)), .int (iN (zm))]) (rest := []) (kr1 := (78, 76)) rfl (jt_lay _ (by omega) (zn := 256) (zi := zi) (zv := iN (zm)) (by decide) (by decide) rfl rfl rfl (by decide) (by omega) (by omega)) ?_
    rintro _ _ ⟨rfl, rfl⟩
    refine wp_run (k := 4) (pc1 := 40) (l1 := [(0, .ref 4), (1, .int (iN (zi))), (2, .int (iN (zm))), (3, .int (iN (zv))), (4, .int (iN (zc)))]) (st1 := [.int (iN (1)), .int (iN (zi)), .ref 7]) (kr1 := (78, 76)) (h1 := am_wr (am_wr zh 5 (zi : Int).toNat (iN (zv))) 6 (zi : Int).toNat (iN (zm))) rfl ?_
    refine wp_call (md1 := am_m_Lp_lay) (As := [.ref 7, .int (iN (zi)), .int (iN (1))]) (rest := []) (kr1 := (78, 76)) rfl (jt_lay _ (by omega) (zn := 256) (zi := zi) (zv := iN (1)) (by decide) (by decide) rfl rfl rfl (by decide) (by omega) (by omega)) ?_
    rintro _ _ ⟨rfl, rfl⟩
    refine wp_run (k := 1) (pc1 := 70) (l1 := [(0, .ref 4), (1, .int (iN (zi))), (2, .int (iN (zm))), (3, .int (iN (zv))), (4, .int (iN (zc)))]) (st1 := []) (kr1 := (78, 76)) (h1 := am_wr (am_wr (am_wr zh 5 (zi : Int).toNat (iN (zv))) 6 (zi : Int).toNat (iN (zm))) 7 (zi : Int).toNat (iN (1))) rfl ?_
    refine wp_ret (rv := none) rfl ?_
    exact ⟨rfl, Or.inl ⟨by omega, rfl⟩⟩
set_option maxRecDepth 20000 in
set_option maxHeartbeats 4000000 in
theorem jt_lpieces_37 (zd : Nat) (q_d : 1 ≤ zd) {zh : am_H} {N : Int} {G : Int → Int → Int} {za zb : Int} (q_ah : ∀ k : Int, 0 ≤ k → k ≤ N → zh.1 41 k.toNat = iN (zPi G k)) (q_N : N ≤ 16) (q_0 : 0 ≤ za ∧ za ≤ zb + 1 ∧ zb < N) : am_wp zd am_m_Lots_pieces 0 [(0, .ref 37), (1, .int (iN (za))), (2, .int (iN (zb)))] [] (78, 76) zh (78, 76) (fun rv h' => rv = some (.int (iN (zD G za zb))) ∧ zh = h') := by
  obtain ⟨zd, rfl⟩ : ∃ y_e, zd = y_e + 1 := ⟨zd - 1, by omega⟩
  refine wp_run (k := 5) (pc1 := 7) (l1 := [(0, .ref 37), (1, .int (iN (za))), (2, .int (iN (zb)))]) (st1 := [.int (iN ((zb) + (1))), .ref 41]) (kr1 := (78, 76)) (h1 := zh) (Eq.trans (b := (some (7, [(0, .ref 37), (1, .int (iN (za))), (2, .int (iN (zb)))], [.int ((iN (zb)) + (iN (1))), .ref 41], (78, 76), zh) : Option am_C)) rfl (by simp only [Int32.ofInt_add, Int32.ofInt_sub, Int32.ofInt_mul, Int32.ofInt_neg])) ?_
  refine wp_call (md1 := am_m_Lp_at) (As := [.ref 41, .int (iN ((zb) + (1)))]) (rest := []) (kr1 := (78, 76)) rfl (jt_at _ (by omega) (zn := 17) (zi := (zb) + (1)) (zv := iN (zPi G ((zb) + (1)))) rfl rfl (by decide) (by omega) (by omega) (q_ah ((zb) + (1)) (by omega) (by omega))) ?_
  rintro _ _ ⟨rfl, rfl⟩
  refine wp_run (k := 3) (pc1 := 15) (l1 := [(0, .ref 37), (1, .int (iN (za))), (2, .int (iN (zb)))]) (st1 := [.int (iN (za)), .ref 41, .int (iN (zPi G ((zb) + (1))))]) (kr1 := (78, 76)) (h1 := zh) rfl ?_
  refine wp_call (md1 := am_m_Lp_at) (As := [.ref 41, .int (iN (za))]) (rest := [.int (iN (zPi G ((zb) + (1))))]) (kr1 := (78, 76)) rfl (jt_at _ (by omega) (zn := 17) (zi := za) (zv := iN (zPi G (za))) rfl rfl (by decide) (by omega) (by omega) (q_ah (za) (by omega) (by omega))) ?_
  rintro _ _ ⟨rfl, rfl⟩
  refine wp_run (k := 1) (pc1 := 19) (l1 := [(0, .ref 37), (1, .int (iN (za))), (2, .int (iN (zb)))]) (st1 := [.int (iN ((zPi G ((zb) + (1))) - (zPi G (za))))]) (kr1 := (78, 76)) (h1 := zh) (Eq.trans (b := (some (19, [(0, .ref 37), (1, .int (iN (za))), (2, .int (iN (zb)))], [.int ((iN (zPi G ((zb) + (1)))) - (iN (zPi G (za))))], (78, 76), zh) : Option am_C)) rfl (by simp only [Int32.ofInt_add, Int32.ofInt_sub, Int32.ofInt_mul, Int32.ofInt_neg])) ?_
  refine wp_ret (rv := some (.int (iN ((zPi G ((zb) + (1))) - (zPi G (za)))))) rfl ?_
  exact ⟨rfl, rfl⟩
set_option maxRecDepth 20000 in
set_option maxHeartbeats 4000000 in
theorem jt_costOf_37 (zd : Nat) (q_d : 1 ≤ zd) {zh : am_H} {za zb zv : Int} (q_0 : 0 ≤ za ∧ za < 16 ∧ 0 ≤ zb ∧ zb < 16) (q_v : zh.1 38 (16 * za + zb).toNat = iN zv) : am_wp zd am_m_Lots_costOf 0 [(0, .ref 37), (1, .int (iN (za))), (2, .int (iN (zb)))] [] (78, 76) zh (78, 76) (fun rv h' => rv = some (.int (iN zv)) ∧ zh = h') := by
  obtain ⟨zd, rfl⟩ : ∃ y_e, zd = y_e + 1 := ⟨zd - 1, by omega⟩
  refine wp_run (k := 7) (pc1 := 10) (l1 := [(0, .ref 37), (1, .int (iN (za))), (2, .int (iN (zb)))]) (st1 := [.int (iN (((za) * (16)) + (zb))), .ref 38]) (kr1 := (78, 76)) (h1 := zh) (Eq.trans (b := (some (10, [(0, .ref 37), (1, .int (iN (za))), (2, .int (iN (zb)))], [.int (((iN (za)) * (iN (16))) + (iN (zb))), .ref 38], (78, 76), zh) : Option am_C)) rfl (by simp only [Int32.ofInt_add, Int32.ofInt_sub, Int32.ofInt_mul, Int32.ofInt_neg])) ?_
  refine wp_call (md1 := am_m_Lp_at) (As := [.ref 38, .int (iN (((za) * (16)) + (zb)))]) (rest := []) (kr1 := (78, 76)) rfl (jt_at _ (by omega) (zn := 256) (zi := ((za) * (16)) + (zb)) (zv := iN zv) rfl rfl (by decide) (by omega) (by omega) ((congrArg (zh.1 38) (by omega)).trans q_v)) ?_
  rintro _ _ ⟨rfl, rfl⟩
  refine wp_ret (rv := some (.int (iN zv))) rfl ?_
  exact ⟨rfl, rfl⟩
set_option maxRecDepth 20000 in
set_option maxHeartbeats 4000000 in
theorem jt_makerOf_37 (zd : Nat) (q_d : 1 ≤ zd) {zh : am_H} {za zb zv : Int} (q_0 : 0 ≤ za ∧ za < 16 ∧ 0 ≤ zb ∧ zb < 16) (q_v : zh.1 39 (16 * za + zb).toNat = iN zv) : am_wp zd am_m_Lots_makerOf 0 [(0, .ref 37), (1, .int (iN (za))), (2, .int (iN (zb)))] [] (78, 76) zh (78, 76) (fun rv h' => rv = some (.int (iN zv)) ∧ zh = h') := by
  obtain ⟨zd, rfl⟩ : ∃ y_e, zd = y_e + 1 := ⟨zd - 1, by omega⟩
  refine wp_run (k := 7) (pc1 := 10) (l1 := [(0, .ref 37), (1, .int (iN (za))), (2, .int (iN (zb)))]) (st1 := [.int (iN (((za) * (16)) + (zb))), .ref 39]) (kr1 := (78, 76)) (h1 := zh) (Eq.trans (b := (some (10, [(0, .ref 37), (1, .int (iN (za))), (2, .int (iN (zb)))], [.int (((iN (za)) * (iN (16))) + (iN (zb))), .ref 39], (78, 76), zh) : Option am_C)) rfl (by simp only [Int32.ofInt_add, Int32.ofInt_sub, Int32.ofInt_mul, Int32.ofInt_neg])) ?_
  refine wp_call (md1 := am_m_Lp_at) (As := [.ref 39, .int (iN (((za) * (16)) + (zb)))]) (rest := []) (kr1 := (78, 76)) rfl (jt_at _ (by omega) (zn := 256) (zi := ((za) * (16)) + (zb)) (zv := iN zv) rfl rfl (by decide) (by omega) (by omega) ((congrArg (zh.1 39) (by omega)).trans q_v)) ?_
  rintro _ _ ⟨rfl, rfl⟩
  refine wp_ret (rv := some (.int (iN zv))) rfl ?_
  exact ⟨rfl, rfl⟩
set_option maxRecDepth 20000 in
set_option maxHeartbeats 4000000 in
theorem jt_waysOf_37 (zd : Nat) (q_d : 1 ≤ zd) {zh : am_H} {za zb zv : Int} (q_0 : 0 ≤ za ∧ za < 16 ∧ 0 ≤ zb ∧ zb < 16) (q_v : zh.1 40 (16 * za + zb).toNat = iN zv) : am_wp zd am_m_Lots_waysOf 0 [(0, .ref 37), (1, .int (iN (za))), (2, .int (iN (zb)))] [] (78, 76) zh (78, 76) (fun rv h' => rv = some (.int (iN zv)) ∧ zh = h') := by
  obtain ⟨zd, rfl⟩ : ∃ y_e, zd = y_e + 1 := ⟨zd - 1, by omega⟩
  refine wp_run (k := 7) (pc1 := 10) (l1 := [(0, .ref 37), (1, .int (iN (za))), (2, .int (iN (zb)))]) (st1 := [.int (iN (((za) * (16)) + (zb))), .ref 40]) (kr1 := (78, 76)) (h1 := zh) (Eq.trans (b := (some (10, [(0, .ref 37), (1, .int (iN (za))), (2, .int (iN (zb)))], [.int (((iN (za)) * (iN (16))) + (iN (zb))), .ref 40], (78, 76), zh) : Option am_C)) rfl (by simp only [Int32.ofInt_add, Int32.ofInt_sub, Int32.ofInt_mul, Int32.ofInt_neg])) ?_
  refine wp_call (md1 := am_m_Lp_at) (As := [.ref 40, .int (iN (((za) * (16)) + (zb)))]) (rest := []) (kr1 := (78, 76)) rfl (jt_at _ (by omega) (zn := 256) (zi := ((za) * (16)) + (zb)) (zv := iN zv) rfl rfl (by decide) (by omega) (by omega) ((congrArg (zh.1 40) (by omega)).trans q_v)) ?_
  rintro _ _ ⟨rfl, rfl⟩
  refine wp_ret (rv := some (.int (iN zv))) rfl ?_
  exact ⟨rfl, rfl⟩
set_option maxRecDepth 20000 in
set_option maxHeartbeats 4000000 in
theorem jt_offer_37 (zd : Nat) (q_d : 1 ≤ zd) {zh : am_H} {zi zm zv zc : Int} (q_i : 0 ≤ zi ∧ zi < 256) (q_c : zh.1 38 zi.toNat = iN zc) (q_v : -2147483648 ≤ zv ∧ zv < 2147483648) (q_z : -2147483648 ≤ zc ∧ zc < 2147483648) : am_wp zd am_m_Lots_offer 0 [(0, .ref 37), (1, .int (iN (zi))), (2, .int (iN (zm))), (3, .int (iN (zv)))] [] (78, 76) zh (78, 76) (fun rv h' => rv = none ∧ ((zv < zc ∧ am_wr (am_wr (am_wr zh 38 zi.toNat (iN zv)) 39 zi.toNat (iN zm)) 40 zi.toNat (iN 1) = h') ∨ (zv = zc ∧ am_wr zh 40 zi.toNat (zh.1 40 zi.toNat + iN 1) = h') ∨ (zc < zv ∧ zh = h'))) := by
  obtain ⟨zd, rfl⟩ : ∃ y_e, zd = y_e + 1 := ⟨zd - 1, by omega⟩
  refine wp_run (k := 3) (pc1 := 5) (l1 := [(0, .ref 37), (1, .int (iN (zi))), (2, .int (iN (zm))), (3, .int (iN (zv)))]) (st1 := [.int (iN (zi)), .ref 38]) (kr1 := (78, 76)) (h1 := zh) rfl ?_
  refine wp_call (md1 := am_m_Lp_at) (As := [.ref 38, .int (iN (zi))]) (rest := []) (kr1 := (78, 76)) rfl (jt_at _ (by omega) (zn := 256) (zi := zi) (zv := iN zc) rfl rfl (by decide) (by omega) (by omega) (q_c)) ?_
  rintro _ _ ⟨rfl, rfl⟩
  refine wp_run (k := 3) (pc1 := 13) (l1 := [(0, .ref 37), (1, .int (iN (zi))), (2, .int (iN (zm))), (3, .int (iN (zv))), (4, .int (iN (zc)))]) (st1 := [.int (iN (zc)), .int (iN (zv))]) (kr1 := (78, 76)) (h1 := zh) (Eq.trans (b := (some (13, [(0, .ref 37), (1, .int (iN (zi))), (2, .int (iN (zm))), (3, .int (iN (zv))), (4, .int (iN zc))], [.int (iN zc), .int (iN (zv))], (78, 76), zh) : Option am_C)) rfl (by simp only [Int32.ofInt_add, Int32.ofInt_sub, Int32.ofInt_mul, Int32.ofInt_neg])) ?_
  refine wp_ge (a := zv) (b := zc) rfl (by omega) (by omega) (fun b_13 => ?_) (fun b_13 => ?_)
  · refine wp_run (k := 2) (pc1 := 49) (l1 := [(0, .ref 37), (1, .int (iN (zi))), (2, .int (iN (zm))), (3, .int (iN (zv))), (4, .int (iN (zc)))]) (st1 := [.int (iN (zc)), .int (iN (zv))]) (kr1 := (78, 76)) (h1 := zh) rfl ?_
    refine wp_ne (a := zv) (b := zc) rfl (by omega) (by omega) (fun b_49 => ?_) (fun b_49 => ?_)
    · refine wp_ret (rv := none) rfl ?_
      exact ⟨rfl, Or.inr (Or.inr ⟨by omega, rfl⟩)⟩
    · refine wp_run (k := 6) (pc1 := 62) (l1 := [(0, .ref 37), (1, .int (iN (zi))), (2, .int (iN (zm))), (3, .int (iN (zv))), (4, .int (iN (zc)))]) (st1 := [.int (iN (zi)), .ref 40, .int (iN (zi)), .ref 40]) (kr1 := (78, 76)) (h1 := zh) rfl ?_
      refine wp_call (md1 := am_m_Lp_at) (As := [.ref 40, .int (iN (zi))]) (rest := [.int (iN (zi)), .ref 40]) (kr1 := (78, 76)) rfl (jt_at _ (by omega) (zn := 256) (zi := zi) (zv := zh.1 40 zi.toNat) rfl rfl (by decide) (by omega) (by omega) (rfl)) ?_
      rintro _ _ ⟨rfl, rfl⟩
      refine wp_run (k := 2) (pc1 := 67) (l1 := [(0, .ref 37), (1, .int (iN (zi))), (2, .int (iN (zm))), (3, .int (iN (zv))), (4, .int (iN (zc)))]) (st1 := [.int ((zh.1 40 zi.toNat) + (iN (1))), .int (iN (zi)), .ref 40]) (kr1 := (78, 76)) (h1 := zh) rfl ?_
      refine wp_call (md1 := am_m_Lp_lay) (As := [.ref 40, .int (iN (zi)), .int ((zh.1 40 zi.toNat) + (iN (1)))]) (rest := []) (kr1 := (78, 76)) rfl (jt_lay _ (by omega) (zn := 256) (zi := zi) (zv := (zh.1 40 zi.toNat) + (iN (1))) (by decide) (by decide) rfl rfl rfl (by decide) (by omega) (by omega)) ?_
      rintro _ _ ⟨rfl, rfl⟩
      refine wp_ret (rv := none) rfl ?_
      exact ⟨rfl, Or.inr (Or.inl ⟨by omega, rfl⟩)⟩
  · refine wp_run (k := 4) (pc1 := 22) (l1 := [(0, .ref 37), (1, .int (iN (zi))), (2, .int (iN (zm))), (3, .int (iN (zv))), (4, .int (iN (zc)))]) (st1 := [.int (iN (zv)), .int (iN (zi)), .ref 38]) (kr1 := (78, 76)) (h1 := zh) rfl ?_
    refine wp_call (md1 := am_m_Lp_lay) (As := [.ref 38, .int (iN (zi)), .int (iN (zv))]) (rest := []) (kr1 := (78, 76)) rfl (jt_lay _ (by omega) (zn := 256) (zi := zi) (zv := iN (zv)) (by decide) (by decide) rfl rfl rfl (by decide) (by omega) (by omega)) ?_
    rintro _ _ ⟨rfl, rfl⟩
    refine wp_run (k := 4) (pc1 := 31) (l1 := [(0, .ref 37), (1, .int (iN (zi))), (2, .int (iN (zm))), (3, .int (iN (zv))), (4, .int (iN (zc)))]) (st1 := [.int (iN (zm)), .int (iN (zi)), .ref 39]) (kr1 := (78, 76)) (h1 := am_wr zh 38 (zi : Int).toNat (iN (zv))) rfl ?_
    refine wp_call (md1 := am_m_Lp_lay) (As := [.ref 39, .int (iN (zi)), .int (iN (zm))]) (rest := []) (kr1 := (78, 76)) rfl (jt_lay _ (by omega) (zn := 256) (zi := zi) (zv := iN (zm)) (by decide) (by decide) rfl rfl rfl (by decide) (by omega) (by omega)) ?_
    rintro _ _ ⟨rfl, rfl⟩
    refine wp_run (k := 4) (pc1 := 40) (l1 := [(0, .ref 37), (1, .int (iN (zi))), (2, .int (iN (zm))), (3, .int (iN (zv))), (4, .int (iN (zc)))]) (st1 := [.int (iN (1)), .int (iN (zi)), .ref 40]) (kr1 := (78, 76)) (h1 := am_wr (am_wr zh 38 (zi : Int).toNat (iN (zv))) 39 (zi : Int).toNat (iN (zm))) rfl ?_
    refine wp_call (md1 := am_m_Lp_lay) (As := [.ref 40, .int (iN (zi)), .int (iN (1))]) (rest := []) (kr1 := (78, 76)) rfl (jt_lay _ (by omega) (zn := 256) (zi := zi) (zv := iN (1)) (by decide) (by decide) rfl rfl rfl (by decide) (by omega) (by omega)) ?_
    rintro _ _ ⟨rfl, rfl⟩
    refine wp_run (k := 1) (pc1 := 70) (l1 := [(0, .ref 37), (1, .int (iN (zi))), (2, .int (iN (zm))), (3, .int (iN (zv))), (4, .int (iN (zc)))]) (st1 := []) (kr1 := (78, 76)) (h1 := am_wr (am_wr (am_wr zh 38 (zi : Int).toNat (iN (zv))) 39 (zi : Int).toNat (iN (zm))) 40 (zi : Int).toNat (iN (1))) rfl ?_
    refine wp_ret (rv := none) rfl ?_
    exact ⟨rfl, Or.inl ⟨by omega, rfl⟩⟩
