/-! THE CONSTRUCTORS: numbers, shelves -/
set_option maxRecDepth 20000 in
set_option maxHeartbeats 4000000 in
theorem jl_first_i1 (zd : Nat) (q_d : 1 ≤ zd) {zh : am_H} {zp : Int} (q_p : 0 ≤ zp ∧ zp < 16) {zQ : Option Value → am_H → Prop} (zk : am_wp zd am_m_Numbers_beAsAtFirst 34 [(0, .ref 1), (1, .int (iN (zp))), (2, .int (iN (6)))] [] (3, 1) (am_row zh 2 (zFw (zh.1 2) zp.toNat (6 : Int).toNat)) (3, 1) zQ) : ∀ (z_n : Nat) (zi : Int) (q_i : 0 ≤ zi ∧ zi ≤ 6), 6 - zi < (z_n : Int) → am_wp zd am_m_Numbers_beAsAtFirst 2 [(0, .ref 1), (1, .int (iN (zp))), (2, .int (iN (zi)))] [] (3, 1) (am_row zh 2 (zFw (zh.1 2) zp.toNat (zi : Int).toNat)) (3, 1) zQ := by
  obtain ⟨zd, rfl⟩ : ∃ y_e, zd = y_e + 1 := ⟨zd - 1, by omega⟩
  intro z_n
  induction z_n with
  | zero => intro zi q_i q_m; omega
  | succ z_n z_ih =>
    intro zi q_i q_m
    refine wp_run (k := 2) (pc1 := 5) (l1 := [(0, .ref 1), (1, .int (iN (zp))), (2, .int (iN (zi)))]) (st1 := [.int (iN (6)), .int (iN (zi))]) (kr1 := (3, 1)) (h1 := am_row zh 2 (zFw (zh.1 2) zp.toNat (zi : Int).toNat)) rfl ?_
    refine wp_ge (a := zi) (b := 6) rfl (by omega) (by omega) (fun b_5 => ?_) (fun b_5 => ?_)
    · rw [show zi = 6 by omega]
      exact zk
    · refine wp_run (k := 9) (pc1 := 22) (l1 := [(0, .ref 1), (1, .int (iN (zp))), (2, .int (iN (zi)))]) (st1 := [.int (iN (zi)), .ref 1040, .int (iN (((zi) * (16)) + (zp))), .ref 2]) (kr1 := (3, 1)) (h1 := am_row zh 2 (zFw (zh.1 2) zp.toNat (zi : Int).toNat)) (Eq.trans (b := (some (22, [(0, .ref 1), (1, .int (iN (zp))), (2, .int (iN (zi)))], [.int (iN (zi)), .ref 1040, .int (((iN (zi)) * (iN (16))) + (iN (zp))), .ref 2], (3, 1), am_row zh 2 (zFw (zh.1 2) zp.toNat (zi : Int).toNat)) : Option am_C)) rfl (by simp only [Int32.ofInt_add, Int32.ofInt_sub, Int32.ofInt_mul, Int32.ofInt_neg])) ?_
      refine wp_call (md1 := am_m_Lp_at) (As := [.ref 1040, .int (iN (zi))]) (rest := [.int (iN (((zi) * (16)) + (zp))), .ref 2]) (kr1 := (3, 1)) rfl (jt_at _ (by omega) (zf := am_F6) (zn := 6) (zi := zi) (zv := iN (zF1 zi)) rfl rfl (by decide) (by omega) (by omega) (am_F6_v zi (by omega))) ?_
      rintro _ _ ⟨rfl, rfl⟩
      refine wp_call (md1 := am_m_Lp_lay) (As := [.ref 2, .int (iN (((zi) * (16)) + (zp))), .int (iN (zF1 zi))]) (rest := []) (kr1 := (3, 1)) rfl (jt_lay _ (by omega) (zn := 98) (zi := ((zi) * (16)) + (zp)) (zv := iN (zF1 zi)) (by decide) (by decide) rfl rfl rfl (by decide) (by omega) (by omega)) ?_
      rintro _ _ ⟨rfl, rfl⟩
      refine wp_run (k := 2) (pc1 := 2) (l1 := [(0, .ref 1), (1, .int (iN (zp))), (2, .int (iN ((zi) + 1)))]) (st1 := []) (kr1 := (3, 1)) (h1 := am_wr (am_row zh 2 (zFw (zh.1 2) zp.toNat (zi : Int).toNat)) 2 (((zi) * (16)) + (zp) : Int).toNat (iN (zF1 zi))) (Eq.trans (b := (some (2, [(0, .ref 1), (1, .int (iN (zp))), (2, .int ((iN (zi)) + iN (1)))], [], (3, 1), am_wr (am_row zh 2 (zFw (zh.1 2) zp.toNat (zi : Int).toNat)) 2 (((zi) * (16)) + (zp) : Int).toNat (iN (zF1 zi))) : Option am_C)) rfl (by simp only [Int32.ofInt_add, Int32.ofInt_sub, Int32.ofInt_mul, Int32.ofInt_neg])) ?_
      rw [am_wr_row2, show (zUp (zFw (zh.1 2) zp.toNat zi.toNat) ((zi) * (16) + (zp) : Int).toNat (iN (zF1 zi))) = zFw (zh.1 2) zp.toNat (zi + 1).toNat from by rw [show (zi + 1).toNat = zi.toNat + 1 by omega, show ((zi) * (16) + (zp) : Int).toNat = 16 * zi.toNat + zp.toNat by omega]; show _ = zUp _ _ (iN (zF1 (zi.toNat : Int))); rw [show (zi.toNat : Int) = zi by omega]]
      exact z_ih (zi + 1) (by omega) (by omega)
set_option maxRecDepth 20000 in
set_option maxHeartbeats 4000000 in
theorem jt_first_i1 (zd : Nat) (q_d : 1 ≤ zd) {zh : am_H} {zp : Int} (q_p : 0 ≤ zp ∧ zp < 16) : am_wp zd am_m_Numbers_beAsAtFirst 0 [(0, .ref 1), (1, .int (iN (zp)))] [] (3, 1) zh (3, 1) (fun rv h' => rv = none ∧ am_row zh 2 (zFw (zh.1 2) zp.toNat 6) = h') := by
  obtain ⟨zd, rfl⟩ : ∃ y_e, zd = y_e + 1 := ⟨zd - 1, by omega⟩
  refine wp_run (k := 2) (pc1 := 2) (l1 := [(0, .ref 1), (1, .int (iN (zp))), (2, .int (iN (0)))]) (st1 := []) (kr1 := (3, 1)) (h1 := zh) rfl ?_
  refine Eq.mpr (congrArg (fun y_h => am_wp _ _ _ _ _ _ y_h _ _) (show zh = am_row zh 2 (zFw (zh.1 2) zp.toNat (0 : Int).toNat) from (am_row_id _ _).symm)) ?_
  refine jl_first_i1 _ (by omega) q_p ?_ 7 0 (by omega) (by omega)
  refine wp_ret (rv := none) rfl ?_
  exact ⟨rfl, rfl⟩
set_option maxRecDepth 20000 in
set_option maxHeartbeats 4000000 in
theorem jl_ninit_1 (zd : Nat) (q_d : 2 ≤ zd) {zh : am_H}  {zQ : Option Value → am_H → Prop} (zk2 : ∀ zg : am_H, am_fr [2] zh zg → (∀ w p : Int, 0 ≤ w → w < 6 → 0 ≤ p → p < 16 → zg.1 2 (16 * w + p).toNat = iN (zF1 w)) → zg.1 2 97 = iN 0 → am_wp zd am_m_Numbers_init 42 [(0, .ref 1), (1, .int (iN (16)))] [] (3, 1) zg (3, 1) zQ) : ∀ (z_n : Nat) (zg : am_H) (zi : Int) (q_fr : am_fr [2] zh zg) (q_A : ∀ w p : Int, 0 ≤ w → w < 6 → 0 ≤ p → p < zi → zg.1 2 (16 * w + p).toNat = iN (zF1 w)) (q_T : zg.1 2 97 = iN 0) (q_i : 0 ≤ zi ∧ zi ≤ 16), 17 - zi < (z_n : Int) → am_wp zd am_m_Numbers_init 25 [(0, .ref 1), (1, .int (iN (zi)))] [] (3, 1) zg (3, 1) zQ := by
  obtain ⟨zd, rfl⟩ : ∃ y_e, zd = y_e + 2 := ⟨zd - 2, by omega⟩
  intro z_n
  induction z_n with
  | zero => intro zg zi q_fr q_A q_T q_i q_m; omega
  | succ z_n z_ih =>
    intro zg zi q_fr q_A q_T q_i q_m
    refine wp_run (k := 2) (pc1 := 28) (l1 := [(0, .ref 1), (1, .int (iN (zi)))]) (st1 := [.int (iN (16)), .int (iN (zi))]) (kr1 := (3, 1)) (h1 := zg) rfl ?_
    refine wp_ge (a := zi) (b := 16) rfl (by omega) (by omega) (fun b_28 => ?_) (fun b_28 => ?_)
    · have y_9 : zi = 16 := by omega
      rw [y_9] at q_A ⊢
      exact zk2 zg q_fr q_A q_T
    · refine wp_run (k := 2) (pc1 := 33) (l1 := [(0, .ref 1), (1, .int (iN (zi)))]) (st1 := [.int (iN (zi)), .ref 1]) (kr1 := (3, 1)) (h1 := zg) rfl ?_
      refine wp_call (md1 := am_m_Numbers_beAsAtFirst) (As := [.ref 1, .int (iN (zi))]) (rest := []) (kr1 := (3, 1)) rfl (jt_first_i1 _ (by omega) (zp := zi) (by omega)) ?_
      rintro _ _ ⟨rfl, rfl⟩
      refine wp_run (k := 2) (pc1 := 25) (l1 := [(0, .ref 1), (1, .int (iN ((zi) + 1)))]) (st1 := []) (kr1 := (3, 1)) (h1 := am_row zg 2 (zFw (zg.1 2) zi.toNat 6)) (Eq.trans (b := (some (25, [(0, .ref 1), (1, .int ((iN (zi)) + iN (1)))], [], (3, 1), am_row zg 2 (zFw (zg.1 2) zi.toNat 6)) : Option am_C)) rfl (by simp only [Int32.ofInt_add, Int32.ofInt_sub, Int32.ofInt_mul, Int32.ofInt_neg])) ?_
      refine z_ih (am_row zg 2 (zFw (zg.1 2) zi.toNat 6)) (zi + 1) (am_fr_r q_fr (by decide) _) (fun w p y1 y2 y3 y4 => ?_) ?_ (by omega) (by omega)
      · rw [am_row_s]
        by_cases y5 : p = zi
        · rw [y5, show (16 * w + zi).toNat = 16 * w.toNat + zi.toNat by omega, zFw_i _ _ _ 6 (by omega), show (w.toNat : Int) = w by omega]
        · rw [zFw_o _ _ _ 6 (fun v y => by omega)]; exact q_A w p y1 y2 y3 (by omega)
      · rw [am_row_s, zFw_o _ _ _ 6 (fun v y => by omega)]; exact q_T
set_option maxRecDepth 20000 in
set_option maxHeartbeats 4000000 in
theorem ji_Numbers_init_1 (zd : Nat) (q_d : 3 ≤ zd) {zh : am_H} (q_z : zZ 1 zh) : am_wp zd am_m_Numbers_init 0 [(0, .ref 1)] [] (2, 0) zh (3, 1) (fun rv h' => rv = none ∧ am_fr [1, 2] zh h' ∧ zNm (h'.1 1) (h'.1 2) 8 (fun w _ => zF1 w) 999 0 ∧ h'.1 1 2 = iN 1) := by
  obtain ⟨zd, rfl⟩ : ∃ y_e, zd = y_e + 3 := ⟨zd - 3, by omega⟩
  refine wp_run (k := 1) (pc1 := 1) (l1 := [(0, .ref 1)]) (st1 := [.ref 1]) (kr1 := (2, 0)) (h1 := zh) rfl ?_
  refine wp_now (rest := []) rfl ?_
  refine wp_run (k := 3) (pc1 := 9) (l1 := [(0, .ref 1)]) (st1 := [.ref 2, .ref 1]) (kr1 := (3, 0)) (h1 := am_z zh 2) rfl ?_
  rw [am_z_0 (zZ_le (zj := 2) q_z (by decide)) (by decide)]
  refine wp_run (k := 9) (pc1 := 25) (l1 := [(0, .ref 1), (1, .int (iN (0)))]) (st1 := []) (kr1 := (3, 1)) (h1 := am_wr (am_wr zh 1 1 (iN (8))) 1 2 (iN (1))) rfl ?_
  refine jl_ninit_1 (zh := am_wr (am_wr zh 1 1 (iN (8))) 1 2 (iN (1))) _ (by omega) ?_ 18 (am_wr (am_wr zh 1 1 (iN (8))) 1 2 (iN (1))) 0 (am_fr_0 _ _) (fun w p y1 y2 y3 y4 => by omega) ?_ (by omega) (by omega)
  rotate_left
  · rw [am_wr_ne (by decide), am_wr_ne (by decide), (q_z 2 (by decide) (by decide)).1]; exact iN_0.symm
  intro zg q_fr q_A q_T
  refine wp_run (k := 4) (pc1 := 51) (l1 := [(0, .ref 1), (1, .int (iN (16)))]) (st1 := [.int (iN (999)), .int (iN (96)), .ref 2]) (kr1 := (3, 1)) (h1 := zg) rfl ?_
  refine wp_iast (z := 96) (j := 96) (n := 98) rfl (by decide) (by decide) rfl rfl (by omega) (by omega) (by decide) ?_
  refine wp_ret (rv := none) rfl ?_
  refine ⟨rfl, am_fr_w (am_fr_t (am_fr_w (am_fr_w (am_fr_0 _ _) (by decide) _ _) (by decide) _ _) (am_fr_m q_fr (by decide))) (by decide) _ _, ⟨?_, fun w p y1 y2 y3 y4 => ?_, am_wr_at, ?_⟩, ?_⟩
  · rw [am_wr_ne (by decide), q_fr.2 1 (by decide), am_wr_no (by decide)]; exact am_wr_at
  · rw [am_wr_no (by omega)]; exact q_A w p y1 y2 y3 (by omega)
  · rw [am_wr_no (by decide)]; exact q_T
  · rw [am_wr_ne (by decide), q_fr.2 1 (by decide)]; exact am_wr_at
set_option maxRecDepth 20000 in
set_option maxHeartbeats 4000000 in
theorem jl_first_i34 (zd : Nat) (q_d : 1 ≤ zd) {zh : am_H} {zp : Int} (q_p : 0 ≤ zp ∧ zp < 16) {zQ : Option Value → am_H → Prop} (zk : am_wp zd am_m_Numbers_beAsAtFirst 34 [(0, .ref 34), (1, .int (iN (zp))), (2, .int (iN (6)))] [] (36, 34) (am_row zh 35 (zFw (zh.1 35) zp.toNat (6 : Int).toNat)) (36, 34) zQ) : ∀ (z_n : Nat) (zi : Int) (q_i : 0 ≤ zi ∧ zi ≤ 6), 6 - zi < (z_n : Int) → am_wp zd am_m_Numbers_beAsAtFirst 2 [(0, .ref 34), (1, .int (iN (zp))), (2, .int (iN (zi)))] [] (36, 34) (am_row zh 35 (zFw (zh.1 35) zp.toNat (zi : Int).toNat)) (36, 34) zQ := by
  obtain ⟨zd, rfl⟩ : ∃ y_e, zd = y_e + 1 := ⟨zd - 1, by omega⟩
  intro z_n
  induction z_n with
  | zero => intro zi q_i q_m; omega
  | succ z_n z_ih =>
    intro zi q_i q_m
    refine wp_run (k := 2) (pc1 := 5) (l1 := [(0, .ref 34), (1, .int (iN (zp))), (2, .int (iN (zi)))]) (st1 := [.int (iN (6)), .int (iN (zi))]) (kr1 := (36, 34)) (h1 := am_row zh 35 (zFw (zh.1 35) zp.toNat (zi : Int).toNat)) rfl ?_
    refine wp_ge (a := zi) (b := 6) rfl (by omega) (by omega) (fun b_5 => ?_) (fun b_5 => ?_)
    · rw [show zi = 6 by omega]
      exact zk
    · refine wp_run (k := 9) (pc1 := 22) (l1 := [(0, .ref 34), (1, .int (iN (zp))), (2, .int (iN (zi)))]) (st1 := [.int (iN (zi)), .ref 1040, .int (iN (((zi) * (16)) + (zp))), .ref 35]) (kr1 := (36, 34)) (h1 := am_row zh 35 (zFw (zh.1 35) zp.toNat (zi : Int).toNat)) (Eq.trans (b := (some (22, [(0, .ref 34), (1, .int (iN (zp))), (2, .int (iN (zi)))], [.int (iN (zi)), .ref 1040, .int (((iN (zi)) * (iN (16))) + (iN (zp))), .ref 35], (36, 34), am_row zh 35 (zFw (zh.1 35) zp.toNat (zi : Int).toNat)) : Option am_C)) rfl (by simp only [Int32.ofInt_add, Int32.ofInt_sub, Int32.ofInt_mul, Int32.ofInt_neg])) ?_
      refine wp_call (md1 := am_m_Lp_at) (As := [.ref 1040, .int (iN (zi))]) (rest := [.int (iN (((zi) * (16)) + (zp))), .ref 35]) (kr1 := (36, 34)) rfl (jt_at _ (by omega) (zf := am_F6) (zn := 6) (zi := zi) (zv := iN (zF1 zi)) rfl rfl (by decide) (by omega) (by omega) (am_F6_v zi (by omega))) ?_
      rintro _ _ ⟨rfl, rfl⟩
      refine wp_call (md1 := am_m_Lp_lay) (As := [.ref 35, .int (iN (((zi) * (16)) + (zp))), .int (iN (zF1 zi))]) (rest := []) (kr1 := (36, 34)) rfl (jt_lay _ (by omega) (zn := 98) (zi := ((zi) * (16)) + (zp)) (zv := iN (zF1 zi)) (by decide) (by decide) rfl rfl rfl (by decide) (by omega) (by omega)) ?_
      rintro _ _ ⟨rfl, rfl⟩
      refine wp_run (k := 2) (pc1 := 2) (l1 := [(0, .ref 34), (1, .int (iN (zp))), (2, .int (iN ((zi) + 1)))]) (st1 := []) (kr1 := (36, 34)) (h1 := am_wr (am_row zh 35 (zFw (zh.1 35) zp.toNat (zi : Int).toNat)) 35 (((zi) * (16)) + (zp) : Int).toNat (iN (zF1 zi))) (Eq.trans (b := (some (2, [(0, .ref 34), (1, .int (iN (zp))), (2, .int ((iN (zi)) + iN (1)))], [], (36, 34), am_wr (am_row zh 35 (zFw (zh.1 35) zp.toNat (zi : Int).toNat)) 35 (((zi) * (16)) + (zp) : Int).toNat (iN (zF1 zi))) : Option am_C)) rfl (by simp only [Int32.ofInt_add, Int32.ofInt_sub, Int32.ofInt_mul, Int32.ofInt_neg])) ?_
      rw [am_wr_row2, show (zUp (zFw (zh.1 35) zp.toNat zi.toNat) ((zi) * (16) + (zp) : Int).toNat (iN (zF1 zi))) = zFw (zh.1 35) zp.toNat (zi + 1).toNat from by rw [show (zi + 1).toNat = zi.toNat + 1 by omega, show ((zi) * (16) + (zp) : Int).toNat = 16 * zi.toNat + zp.toNat by omega]; show _ = zUp _ _ (iN (zF1 (zi.toNat : Int))); rw [show (zi.toNat : Int) = zi by omega]]
      exact z_ih (zi + 1) (by omega) (by omega)
set_option maxRecDepth 20000 in
set_option maxHeartbeats 4000000 in
theorem jt_first_i34 (zd : Nat) (q_d : 1 ≤ zd) {zh : am_H} {zp : Int} (q_p : 0 ≤ zp ∧ zp < 16) : am_wp zd am_m_Numbers_beAsAtFirst 0 [(0, .ref 34), (1, .int (iN (zp)))] [] (36, 34) zh (36, 34) (fun rv h' => rv = none ∧ am_row zh 35 (zFw (zh.1 35) zp.toNat 6) = h') := by
  obtain ⟨zd, rfl⟩ : ∃ y_e, zd = y_e + 1 := ⟨zd - 1, by omega⟩
  refine wp_run (k := 2) (pc1 := 2) (l1 := [(0, .ref 34), (1, .int (iN (zp))), (2, .int (iN (0)))]) (st1 := []) (kr1 := (36, 34)) (h1 := zh) rfl ?_
  refine Eq.mpr (congrArg (fun y_h => am_wp _ _ _ _ _ _ y_h _ _) (show zh = am_row zh 35 (zFw (zh.1 35) zp.toNat (0 : Int).toNat) from (am_row_id _ _).symm)) ?_
  refine jl_first_i34 _ (by omega) q_p ?_ 7 0 (by omega) (by omega)
  refine wp_ret (rv := none) rfl ?_
  exact ⟨rfl, rfl⟩
set_option maxRecDepth 20000 in
set_option maxHeartbeats 4000000 in
theorem jl_ninit_34 (zd : Nat) (q_d : 2 ≤ zd) {zh : am_H}  {zQ : Option Value → am_H → Prop} (zk2 : ∀ zg : am_H, am_fr [35] zh zg → (∀ w p : Int, 0 ≤ w → w < 6 → 0 ≤ p → p < 16 → zg.1 35 (16 * w + p).toNat = iN (zF1 w)) → zg.1 35 97 = iN 0 → am_wp zd am_m_Numbers_init 42 [(0, .ref 34), (1, .int (iN (16)))] [] (36, 34) zg (36, 34) zQ) : ∀ (z_n : Nat) (zg : am_H) (zi : Int) (q_fr : am_fr [35] zh zg) (q_A : ∀ w p : Int, 0 ≤ w → w < 6 → 0 ≤ p → p < zi → zg.1 35 (16 * w + p).toNat = iN (zF1 w)) (q_T : zg.1 35 97 = iN 0) (q_i : 0 ≤ zi ∧ zi ≤ 16), 17 - zi < (z_n : Int) → am_wp zd am_m_Numbers_init 25 [(0, .ref 34), (1, .int (iN (zi)))] [] (36, 34) zg (36, 34) zQ := by
  obtain ⟨zd, rfl⟩ : ∃ y_e, zd = y_e + 2 := ⟨zd - 2, by omega⟩
  intro z_n
  induction z_n with
  | zero => intro zg zi q_fr q_A q_T q_i q_m; omega
  | succ z_n z_ih =>
    intro zg zi q_fr q_A q_T q_i q_m
    refine wp_run (k := 2) (pc1 := 28) (l1 := [(0, .ref 34), (1, .int (iN (zi)))]) (st1 := [.int (iN (16)), .int (iN (zi))]) (kr1 := (36, 34)) (h1 := zg) rfl ?_
    refine wp_ge (a := zi) (b := 16) rfl (by omega) (by omega) (fun b_28 => ?_) (fun b_28 => ?_)
    · have y_9 : zi = 16 := by omega
      rw [y_9] at q_A ⊢
      exact zk2 zg q_fr q_A q_T
    · refine wp_run (k := 2) (pc1 := 33) (l1 := [(0, .ref 34), (1, .int (iN (zi)))]) (st1 := [.int (iN (zi)), .ref 34]) (kr1 := (36, 34)) (h1 := zg) rfl ?_
      refine wp_call (md1 := am_m_Numbers_beAsAtFirst) (As := [.ref 34, .int (iN (zi))]) (rest := []) (kr1 := (36, 34)) rfl (jt_first_i34 _ (by omega) (zp := zi) (by omega)) ?_
      rintro _ _ ⟨rfl, rfl⟩
      refine wp_run (k := 2) (pc1 := 25) (l1 := [(0, .ref 34), (1, .int (iN ((zi) + 1)))]) (st1 := []) (kr1 := (36, 34)) (h1 := am_row zg 35 (zFw (zg.1 35) zi.toNat 6)) (Eq.trans (b := (some (25, [(0, .ref 34), (1, .int ((iN (zi)) + iN (1)))], [], (36, 34), am_row zg 35 (zFw (zg.1 35) zi.toNat 6)) : Option am_C)) rfl (by simp only [Int32.ofInt_add, Int32.ofInt_sub, Int32.ofInt_mul, Int32.ofInt_neg])) ?_
      refine z_ih (am_row zg 35 (zFw (zg.1 35) zi.toNat 6)) (zi + 1) (am_fr_r q_fr (by decide) _) (fun w p y1 y2 y3 y4 => ?_) ?_ (by omega) (by omega)
      · rw [am_row_s]
        by_cases y5 : p = zi
        · rw [y5, show (16 * w + zi).toNat = 16 * w.toNat + zi.toNat by omega, zFw_i _ _ _ 6 (by omega), show (w.toNat : Int) = w by omega]
        · rw [zFw_o _ _ _ 6 (fun v y => by omega)]; exact q_A w p y1 y2 y3 (by omega)
      · rw [am_row_s, zFw_o _ _ _ 6 (fun v y => by omega)]; exact q_T
set_option maxRecDepth 20000 in
set_option maxHeartbeats 4000000 in
theorem ji_Numbers_init_34 (zd : Nat) (q_d : 3 ≤ zd) {zh : am_H} (q_z : zZ 34 zh) : am_wp zd am_m_Numbers_init 0 [(0, .ref 34)] [] (35, 33) zh (36, 34) (fun rv h' => rv = none ∧ am_fr [34, 35] zh h' ∧ zNm (h'.1 34) (h'.1 35) 8 (fun w _ => zF1 w) 999 0 ∧ h'.1 34 2 = iN 1) := by
  obtain ⟨zd, rfl⟩ : ∃ y_e, zd = y_e + 3 := ⟨zd - 3, by omega⟩
  refine wp_run (k := 1) (pc1 := 1) (l1 := [(0, .ref 34)]) (st1 := [.ref 34]) (kr1 := (35, 33)) (h1 := zh) rfl ?_
  refine wp_now (rest := []) rfl ?_
  refine wp_run (k := 3) (pc1 := 9) (l1 := [(0, .ref 34)]) (st1 := [.ref 35, .ref 34]) (kr1 := (36, 33)) (h1 := am_z zh 35) rfl ?_
  rw [am_z_0 (zZ_le (zj := 35) q_z (by decide)) (by decide)]
  refine wp_run (k := 9) (pc1 := 25) (l1 := [(0, .ref 34), (1, .int (iN (0)))]) (st1 := []) (kr1 := (36, 34)) (h1 := am_wr (am_wr zh 34 1 (iN (8))) 34 2 (iN (1))) rfl ?_
  refine jl_ninit_34 (zh := am_wr (am_wr zh 34 1 (iN (8))) 34 2 (iN (1))) _ (by omega) ?_ 18 (am_wr (am_wr zh 34 1 (iN (8))) 34 2 (iN (1))) 0 (am_fr_0 _ _) (fun w p y1 y2 y3 y4 => by omega) ?_ (by omega) (by omega)
  rotate_left
  · rw [am_wr_ne (by decide), am_wr_ne (by decide), (q_z 35 (by decide) (by decide)).1]; exact iN_0.symm
  intro zg q_fr q_A q_T
  refine wp_run (k := 4) (pc1 := 51) (l1 := [(0, .ref 34), (1, .int (iN (16)))]) (st1 := [.int (iN (999)), .int (iN (96)), .ref 35]) (kr1 := (36, 34)) (h1 := zg) rfl ?_
  refine wp_iast (z := 96) (j := 96) (n := 98) rfl (by decide) (by decide) rfl rfl (by omega) (by omega) (by decide) ?_
  refine wp_ret (rv := none) rfl ?_
  refine ⟨rfl, am_fr_w (am_fr_t (am_fr_w (am_fr_w (am_fr_0 _ _) (by decide) _ _) (by decide) _ _) (am_fr_m q_fr (by decide))) (by decide) _ _, ⟨?_, fun w p y1 y2 y3 y4 => ?_, am_wr_at, ?_⟩, ?_⟩
  · rw [am_wr_ne (by decide), q_fr.2 34 (by decide), am_wr_no (by decide)]; exact am_wr_at
  · rw [am_wr_no (by omega)]; exact q_A w p y1 y2 y3 (by omega)
  · rw [am_wr_no (by decide)]; exact q_T
  · rw [am_wr_ne (by decide), q_fr.2 34 (by decide)]; exact am_wr_at
set_option maxRecDepth 20000 in
set_option maxHeartbeats 4000000 in
theorem jl_first_i51 (zd : Nat) (q_d : 1 ≤ zd) {zh : am_H} {zp : Int} (q_p : 0 ≤ zp ∧ zp < 16) {zQ : Option Value → am_H → Prop} (zk : am_wp zd am_m_Numbers_beAsAtFirst 34 [(0, .ref 51), (1, .int (iN (zp))), (2, .int (iN (6)))] [] (53, 51) (am_row zh 52 (zFw (zh.1 52) zp.toNat (6 : Int).toNat)) (53, 51) zQ) : ∀ (z_n : Nat) (zi : Int) (q_i : 0 ≤ zi ∧ zi ≤ 6), 6 - zi < (z_n : Int) → am_wp zd am_m_Numbers_beAsAtFirst 2 [(0, .ref 51), (1, .int (iN (zp))), (2, .int (iN (zi)))] [] (53, 51) (am_row zh 52 (zFw (zh.1 52) zp.toNat (zi : Int).toNat)) (53, 51) zQ := by
  obtain ⟨zd, rfl⟩ : ∃ y_e, zd = y_e + 1 := ⟨zd - 1, by omega⟩
  intro z_n
  induction z_n with
  | zero => intro zi q_i q_m; omega
  | succ z_n z_ih =>
    intro zi q_i q_m
    refine wp_run (k := 2) (pc1 := 5) (l1 := [(0, .ref 51), (1, .int (iN (zp))), (2, .int (iN (zi)))]) (st1 := [.int (iN (6)), .int (iN (zi))]) (kr1 := (53, 51)) (h1 := am_row zh 52 (zFw (zh.1 52) zp.toNat (zi : Int).toNat)) rfl ?_
    refine wp_ge (a := zi) (b := 6) rfl (by omega) (by omega) (fun b_5 => ?_) (fun b_5 => ?_)
    · rw [show zi = 6 by omega]
      exact zk
    · refine wp_run (k := 9) (pc1 := 22) (l1 := [(0, .ref 51), (1, .int (iN (zp))), (2, .int (iN (zi)))]) (st1 := [.int (iN (zi)), .ref 1040, .int (iN (((zi) * (16)) + (zp))), .ref 52]) (kr1 := (53, 51)) (h1 := am_row zh 52 (zFw (zh.1 52) zp.toNat (zi : Int).toNat)) (Eq.trans (b := (some (22, [(0, .ref 51), (1, .int (iN (zp))), (2, .int (iN (zi)))], [.int (iN (zi)), .ref 1040, .int (((iN (zi)) * (iN (16))) + (iN (zp))), .ref 52], (53, 51), am_row zh 52 (zFw (zh.1 52) zp.toNat (zi : Int).toNat)) : Option am_C)) rfl (by simp only [Int32.ofInt_add, Int32.ofInt_sub, Int32.ofInt_mul, Int32.ofInt_neg])) ?_
      refine wp_call (md1 := am_m_Lp_at) (As := [.ref 1040, .int (iN (zi))]) (rest := [.int (iN (((zi) * (16)) + (zp))), .ref 52]) (kr1 := (53, 51)) rfl (jt_at _ (by omega) (zf := am_F6) (zn := 6) (zi := zi) (zv := iN (zF1 zi)) rfl rfl (by decide) (by omega) (by omega) (am_F6_v zi (by omega))) ?_
      rintro _ _ ⟨rfl, rfl⟩
      refine wp_call (md1 := am_m_Lp_lay) (As := [.ref 52, .int (iN (((zi) * (16)) + (zp))), .int (iN (zF1 zi))]) (rest := []) (kr1 := (53, 51)) rfl (jt_lay _ (by omega) (zn := 98) (zi := ((zi) * (16)) + (zp)) (zv := iN (zF1 zi)) (by decide) (by decide) rfl rfl rfl (by decide) (by omega) (by omega)) ?_
      rintro _ _ ⟨rfl, rfl⟩
      refine wp_run (k := 2) (pc1 := 2) (l1 := [(0, .ref 51), (1, .int (iN (zp))), (2, .int (iN ((zi) + 1)))]) (st1 := []) (kr1 := (53, 51)) (h1 := am_wr (am_row zh 52 (zFw (zh.1 52) zp.toNat (zi : Int).toNat)) 52 (((zi) * (16)) + (zp) : Int).toNat (iN (zF1 zi))) (Eq.trans (b := (some (2, [(0, .ref 51), (1, .int (iN (zp))), (2, .int ((iN (zi)) + iN (1)))], [], (53, 51), am_wr (am_row zh 52 (zFw (zh.1 52) zp.toNat (zi : Int).toNat)) 52 (((zi) * (16)) + (zp) : Int).toNat (iN (zF1 zi))) : Option am_C)) rfl (by simp only [Int32.ofInt_add, Int32.ofInt_sub, Int32.ofInt_mul, Int32.ofInt_neg])) ?_
      rw [am_wr_row2, show (zUp (zFw (zh.1 52) zp.toNat zi.toNat) ((zi) * (16) + (zp) : Int).toNat (iN (zF1 zi))) = zFw (zh.1 52) zp.toNat (zi + 1).toNat from by rw [show (zi + 1).toNat = zi.toNat + 1 by omega, show ((zi) * (16) + (zp) : Int).toNat = 16 * zi.toNat + zp.toNat by omega]; show _ = zUp _ _ (iN (zF1 (zi.toNat : Int))); rw [show (zi.toNat : Int) = zi by omega]]
      exact z_ih (zi + 1) (by omega) (by omega)
set_option maxRecDepth 20000 in
set_option maxHeartbeats 4000000 in
theorem jt_first_i51 (zd : Nat) (q_d : 1 ≤ zd) {zh : am_H} {zp : Int} (q_p : 0 ≤ zp ∧ zp < 16) : am_wp zd am_m_Numbers_beAsAtFirst 0 [(0, .ref 51), (1, .int (iN (zp)))] [] (53, 51) zh (53, 51) (fun rv h' => rv = none ∧ am_row zh 52 (zFw (zh.1 52) zp.toNat 6) = h') := by
  obtain ⟨zd, rfl⟩ : ∃ y_e, zd = y_e + 1 := ⟨zd - 1, by omega⟩
  refine wp_run (k := 2) (pc1 := 2) (l1 := [(0, .ref 51), (1, .int (iN (zp))), (2, .int (iN (0)))]) (st1 := []) (kr1 := (53, 51)) (h1 := zh) rfl ?_
  refine Eq.mpr (congrArg (fun y_h => am_wp _ _ _ _ _ _ y_h _ _) (show zh = am_row zh 52 (zFw (zh.1 52) zp.toNat (0 : Int).toNat) from (am_row_id _ _).symm)) ?_
  refine jl_first_i51 _ (by omega) q_p ?_ 7 0 (by omega) (by omega)
  refine wp_ret (rv := none) rfl ?_
  exact ⟨rfl, rfl⟩
set_option maxRecDepth 20000 in
set_option maxHeartbeats 4000000 in
theorem jl_ninit_51 (zd : Nat) (q_d : 2 ≤ zd) {zh : am_H}  {zQ : Option Value → am_H → Prop} (zk2 : ∀ zg : am_H, am_fr [52] zh zg → (∀ w p : Int, 0 ≤ w → w < 6 → 0 ≤ p → p < 16 → zg.1 52 (16 * w + p).toNat = iN (zF1 w)) → zg.1 52 97 = iN 0 → am_wp zd am_m_Numbers_init 42 [(0, .ref 51), (1, .int (iN (16)))] [] (53, 51) zg (53, 51) zQ) : ∀ (z_n : Nat) (zg : am_H) (zi : Int) (q_fr : am_fr [52] zh zg) (q_A : ∀ w p : Int, 0 ≤ w → w < 6 → 0 ≤ p → p < zi → zg.1 52 (16 * w + p).toNat = iN (zF1 w)) (q_T : zg.1 52 97 = iN 0) (q_i : 0 ≤ zi ∧ zi ≤ 16), 17 - zi < (z_n : Int) → am_wp zd am_m_Numbers_init 25 [(0, .ref 51), (1, .int (iN (zi)))] [] (53, 51) zg (53, 51) zQ := by
  obtain ⟨zd, rfl⟩ : ∃ y_e, zd = y_e + 2 := ⟨zd - 2, by omega⟩
  intro z_n
  induction z_n with
  | zero => intro zg zi q_fr q_A q_T q_i q_m; omega
  | succ z_n z_ih =>
    intro zg zi q_fr q_A q_T q_i q_m
    refine wp_run (k := 2) (pc1 := 28) (l1 := [(0, .ref 51), (1, .int (iN (zi)))]) (st1 := [.int (iN (16)), .int (iN (zi))]) (kr1 := (53, 51)) (h1 := zg) rfl ?_
    refine wp_ge (a := zi) (b := 16) rfl (by omega) (by omega) (fun b_28 => ?_) (fun b_28 => ?_)
    · have y_9 : zi = 16 := by omega
      rw [y_9] at q_A ⊢
      exact zk2 zg q_fr q_A q_T
    · refine wp_run (k := 2) (pc1 := 33) (l1 := [(0, .ref 51), (1, .int (iN (zi)))]) (st1 := [.int (iN (zi)), .ref 51]) (kr1 := (53, 51)) (h1 := zg) rfl ?_
      refine wp_call (md1 := am_m_Numbers_beAsAtFirst) (As := [.ref 51, .int (iN (zi))]) (rest := []) (kr1 := (53, 51)) rfl (jt_first_i51 _ (by omega) (zp := zi) (by omega)) ?_
      rintro _ _ ⟨rfl, rfl⟩
      refine wp_run (k := 2) (pc1 := 25) (l1 := [(0, .ref 51), (1, .int (iN ((zi) + 1)))]) (st1 := []) (kr1 := (53, 51)) (h1 := am_row zg 52 (zFw (zg.1 52) zi.toNat 6)) (Eq.trans (b := (some (25, [(0, .ref 51), (1, .int ((iN (zi)) + iN (1)))], [], (53, 51), am_row zg 52 (zFw (zg.1 52) zi.toNat 6)) : Option am_C)) rfl (by simp only [Int32.ofInt_add, Int32.ofInt_sub, Int32.ofInt_mul, Int32.ofInt_neg])) ?_
      refine z_ih (am_row zg 52 (zFw (zg.1 52) zi.toNat 6)) (zi + 1) (am_fr_r q_fr (by decide) _) (fun w p y1 y2 y3 y4 => ?_) ?_ (by omega) (by omega)
      · rw [am_row_s]
        by_cases y5 : p = zi
        · rw [y5, show (16 * w + zi).toNat = 16 * w.toNat + zi.toNat by omega, zFw_i _ _ _ 6 (by omega), show (w.toNat : Int) = w by omega]
        · rw [zFw_o _ _ _ 6 (fun v y => by omega)]; exact q_A w p y1 y2 y3 (by omega)
      · rw [am_row_s, zFw_o _ _ _ 6 (fun v y => by omega)]; exact q_T
set_option maxRecDepth 20000 in
set_option maxHeartbeats 4000000 in
theorem ji_Numbers_init_51 (zd : Nat) (q_d : 3 ≤ zd) {zh : am_H} (q_z : zZ 51 zh) : am_wp zd am_m_Numbers_init 0 [(0, .ref 51)] [] (52, 50) zh (53, 51) (fun rv h' => rv = none ∧ am_fr [51, 52] zh h' ∧ zNm (h'.1 51) (h'.1 52) 8 (fun w _ => zF1 w) 999 0 ∧ h'.1 51 2 = iN 1) := by
  obtain ⟨zd, rfl⟩ : ∃ y_e, zd = y_e + 3 := ⟨zd - 3, by omega⟩
  refine wp_run (k := 1) (pc1 := 1) (l1 := [(0, .ref 51)]) (st1 := [.ref 51]) (kr1 := (52, 50)) (h1 := zh) rfl ?_
  refine wp_now (rest := []) rfl ?_
  refine wp_run (k := 3) (pc1 := 9) (l1 := [(0, .ref 51)]) (st1 := [.ref 52, .ref 51]) (kr1 := (53, 50)) (h1 := am_z zh 52) rfl ?_
  rw [am_z_0 (zZ_le (zj := 52) q_z (by decide)) (by decide)]
  refine wp_run (k := 9) (pc1 := 25) (l1 := [(0, .ref 51), (1, .int (iN (0)))]) (st1 := []) (kr1 := (53, 51)) (h1 := am_wr (am_wr zh 51 1 (iN (8))) 51 2 (iN (1))) rfl ?_
  refine jl_ninit_51 (zh := am_wr (am_wr zh 51 1 (iN (8))) 51 2 (iN (1))) _ (by omega) ?_ 18 (am_wr (am_wr zh 51 1 (iN (8))) 51 2 (iN (1))) 0 (am_fr_0 _ _) (fun w p y1 y2 y3 y4 => by omega) ?_ (by omega) (by omega)
  rotate_left
  · rw [am_wr_ne (by decide), am_wr_ne (by decide), (q_z 52 (by decide) (by decide)).1]; exact iN_0.symm
  intro zg q_fr q_A q_T
  refine wp_run (k := 4) (pc1 := 51) (l1 := [(0, .ref 51), (1, .int (iN (16)))]) (st1 := [.int (iN (999)), .int (iN (96)), .ref 52]) (kr1 := (53, 51)) (h1 := zg) rfl ?_
  refine wp_iast (z := 96) (j := 96) (n := 98) rfl (by decide) (by decide) rfl rfl (by omega) (by omega) (by decide) ?_
  refine wp_ret (rv := none) rfl ?_
  refine ⟨rfl, am_fr_w (am_fr_t (am_fr_w (am_fr_w (am_fr_0 _ _) (by decide) _ _) (by decide) _ _) (am_fr_m q_fr (by decide))) (by decide) _ _, ⟨?_, fun w p y1 y2 y3 y4 => ?_, am_wr_at, ?_⟩, ?_⟩
  · rw [am_wr_ne (by decide), q_fr.2 51 (by decide), am_wr_no (by decide)]; exact am_wr_at
  · rw [am_wr_no (by omega)]; exact q_A w p y1 y2 y3 (by omega)
  · rw [am_wr_no (by decide)]; exact q_T
  · rw [am_wr_ne (by decide), q_fr.2 51 (by decide)]; exact am_wr_at
