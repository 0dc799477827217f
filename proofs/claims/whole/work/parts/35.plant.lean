/-! THE CLASS's Plan: takeLots -/
set_option maxRecDepth 20000 in
set_option maxHeartbeats 4000000 in
theorem jl_tstock_3 (zd : Nat) (q_d : 2 ≤ zd) {zh : am_H} {N : Int} {G : Int → Int → Int} {S T : Int} {B : Int → Int} {za : Int} (q_nm : zNm (zh.1 1) (zh.1 2) N G S T) (q_g : zGk N G S T) (q_hd : zHd (zh.1 16) B 16) {zQ : Option Value → am_H → Prop} (zk : ∀ zg : am_H, am_fr [17] zh zg → (∀ x : Int, 0 ≤ x → x < N → zg.1 17 x.toNat = iN (zSt G B x)) → zQ none zg) : ∀ (z_n : Nat) (zg : am_H) (zi : Int) (zc : Int) (q_f : am_fr [17] zh zg) (q_i : 0 ≤ zi ∧ zi ≤ N) (q_z : zc = zSi B zi - zPi G zi) (q_w : ∀ x : Int, 0 ≤ x → x < zi → zg.1 17 x.toNat = iN (zSt G B x)), N - zi < (z_n : Int) → am_wp zd am_m_Plan_takeLots 154 [(0, .ref 3), (1, .ref 1), (2, .int (iN (N))), (3, .int (iN (za))), (4, .int (iN (zc))), (5, .int (iN (zi)))] [] (78, 76) zg (78, 76) zQ := by
  obtain ⟨zd, rfl⟩ : ∃ y_e, zd = y_e + 2 := ⟨zd - 2, by omega⟩
  intro z_n
  induction z_n with
  | zero => intro zg zi zc q_f q_i q_z q_w q_m; omega
  | succ z_n z_ih =>
    intro zg zi zc q_f q_i q_z q_w q_m
    have q_N := q_g.1
    refine wp_run (k := 2) (pc1 := 157) (l1 := [(0, .ref 3), (1, .ref 1), (2, .int (iN (N))), (3, .int (iN (za))), (4, .int (iN (zc))), (5, .int (iN (zi)))]) (st1 := [.int (iN (N)), .int (iN (zi))]) (kr1 := (78, 76)) (h1 := zg) rfl ?_
    refine wp_ge (a := zi) (b := N) rfl (by omega) (by omega) (fun b_157 => ?_) (fun b_157 => ?_)
    · refine wp_ret (rv := none) rfl ?_
      exact zk zg q_f (fun x y1 y2 => q_w x y1 (by omega))
    · refine wp_run (k := 4) (pc1 := 168) (l1 := [(0, .ref 3), (1, .ref 1), (2, .int (iN (N))), (3, .int (iN (za))), (4, .int (iN (zc))), (5, .int (iN (zi)))]) (st1 := [.int (iN (zi)), .ref 16, .int (iN (zc))]) (kr1 := (78, 76)) (h1 := zg) rfl ?_
      refine wp_call (md1 := am_m_Lp_at) (As := [.ref 16, .int (iN (zi))]) (rest := [.int (iN (zc))]) (kr1 := (78, 76)) rfl (jt_at _ (by omega) (zn := 16) (zi := zi) (zv := iN (B zi)) rfl rfl (by decide) (by omega) (by omega) ((congrFun (q_f.2 16 (by decide)) _).trans (q_hd zi (by omega) (by omega)))) ?_
      rintro _ _ ⟨rfl, rfl⟩
      refine wp_run (k := 3) (pc1 := 175) (l1 := [(0, .ref 3), (1, .ref 1), (2, .int (iN (N))), (3, .int (iN (za))), (4, .int (iN (zc))), (5, .int (iN (zi)))]) (st1 := [.int (iN (0)), .int (iN (zi)), .ref 1, .int (iN (B zi)), .int (iN (zc))]) (kr1 := (78, 76)) (h1 := zg) rfl ?_
      refine wp_call (md1 := am_m_Numbers_value) (As := [.ref 1, .int (iN (zi)), .int (iN (0))]) (rest := [.int (iN (B zi)), .int (iN (zc))]) (kr1 := (78, 76)) rfl (jt_value_1 _ (by omega) (zNm_f q_f q_nm (by decide) (by decide)) q_g (zp := zi) (zw := 0) (by omega) (by omega)) ?_
      rintro _ _ ⟨rfl, rfl⟩
      refine wp_run (k := 7) (pc1 := 190) (l1 := [(0, .ref 3), (1, .ref 1), (2, .int (iN (N))), (3, .int (iN (za))), (4, .int (iN ((zc) + ((B zi) - (G (0) (zi)))))), (5, .int (iN (zi)))]) (st1 := [.int (iN ((zc) + ((B zi) - (G (0) (zi))))), .int (iN (zi)), .ref 17]) (kr1 := (78, 76)) (h1 := zg) (Eq.trans (b := (some (190, [(0, .ref 3), (1, .ref 1), (2, .int (iN (N))), (3, .int (iN (za))), (4, .int ((iN (zc)) + ((iN (B zi)) - (iN (G (0) (zi)))))), (5, .int (iN (zi)))], [.int ((iN (zc)) + ((iN (B zi)) - (iN (G (0) (zi))))), .int (iN (zi)), .ref 17], (78, 76), zg) : Option am_C)) rfl (by simp only [Int32.ofInt_add, Int32.ofInt_sub, Int32.ofInt_mul, Int32.ofInt_neg])) ?_
      refine wp_call (md1 := am_m_Lp_lay) (As := [.ref 17, .int (iN (zi)), .int (iN ((zc) + ((B zi) - (G (0) (zi)))))]) (rest := []) (kr1 := (78, 76)) rfl (jt_lay _ (by omega) (zn := 16) (zi := zi) (zv := iN ((zc) + ((B zi) - (G (0) (zi))))) (by decide) (by decide) rfl rfl rfl (by decide) (by omega) (by omega)) ?_
      rintro _ _ ⟨rfl, rfl⟩
      refine wp_run (k := 2) (pc1 := 154) (l1 := [(0, .ref 3), (1, .ref 1), (2, .int (iN (N))), (3, .int (iN (za))), (4, .int (iN ((zc) + ((B zi) - (G (0) (zi)))))), (5, .int (iN ((zi) + 1)))]) (st1 := []) (kr1 := (78, 76)) (h1 := am_wr zg 17 (zi : Int).toNat (iN ((zc) + ((B zi) - (G (0) (zi)))))) (Eq.trans (b := (some (154, [(0, .ref 3), (1, .ref 1), (2, .int (iN (N))), (3, .int (iN (za))), (4, .int (iN ((zc) + ((B zi) - (G (0) (zi)))))), (5, .int ((iN (zi)) + iN (1)))], [], (78, 76), am_wr zg 17 (zi : Int).toNat (iN ((zc) + ((B zi) - (G (0) (zi)))))) : Option am_C)) rfl (by simp only [Int32.ofInt_add, Int32.ofInt_sub, Int32.ofInt_mul, Int32.ofInt_neg])) ?_
      have y_8 : (zc) + ((B zi) - (G (0) (zi))) = zSt G B zi := by unfold zSt; rw [q_z, zSi_s B zi (by omega), zPi_s G zi (by omega)]; omega
      refine z_ih _ (zi + 1) ((zc) + ((B zi) - (G (0) (zi)))) (am_fr_w q_f (by decide) _ _) (by omega) (y_8.trans rfl) (fun x y1 y2 => ?_) (by omega)
      by_cases y3 : x = zi
      · rw [y3, am_wr_at, y_8]
      · rw [am_wr_no (by omega)]; exact q_w x y1 (by omega)
set_option maxRecDepth 20000 in
set_option maxHeartbeats 4000000 in
theorem jl_tzero_3 (zd : Nat) (q_d : 2 ≤ zd) {zh : am_H} {N : Int}  {zQ : Option Value → am_H → Prop} (zk : ∀ zg : am_H, am_fr [16] zh zg → (∀ x : Int, 0 ≤ x → x < 16 → zg.1 16 x.toNat = iN 0) → am_wp zd am_m_Plan_takeLots 29 [(0, .ref 3), (1, .ref 1), (2, .int (iN (N))), (3, .int (iN (16)))] [] (78, 76) zg (78, 76) zQ) : ∀ (z_n : Nat) (zg : am_H) (zi : Int) (q_f : am_fr [16] zh zg) (q_i : 0 ≤ zi ∧ zi ≤ 16) (q_w : ∀ x : Int, 0 ≤ x → x < zi → zg.1 16 x.toNat = iN 0), 16 - zi < (z_n : Int) → am_wp zd am_m_Plan_takeLots 7 [(0, .ref 3), (1, .ref 1), (2, .int (iN (N))), (3, .int (iN (zi)))] [] (78, 76) zg (78, 76) zQ := by
  obtain ⟨zd, rfl⟩ : ∃ y_e, zd = y_e + 2 := ⟨zd - 2, by omega⟩
  intro z_n
  induction z_n with
  | zero => intro zg zi q_f q_i q_w q_m; omega
  | succ z_n z_ih =>
    intro zg zi q_f q_i q_w q_m
    refine wp_run (k := 3) (pc1 := 12) (l1 := [(0, .ref 3), (1, .ref 1), (2, .int (iN (N))), (3, .int (iN (zi)))]) (st1 := [.ref 16, .int (iN (zi))]) (kr1 := (78, 76)) (h1 := zg) rfl ?_
    refine wp_alen (v := 16) rfl rfl ?_
    refine wp_ge (a := zi) (b := 16) rfl (by omega) (by omega) (fun b_13 => ?_) (fun b_13 => ?_)
    · have y_9 : zi = 16 := by omega
      rw [y_9]
      exact zk zg q_f (fun x y1 y2 => q_w x y1 (by omega))
    · refine wp_run (k := 4) (pc1 := 22) (l1 := [(0, .ref 3), (1, .ref 1), (2, .int (iN (N))), (3, .int (iN (zi)))]) (st1 := [.int (iN (0)), .int (iN (zi)), .ref 16]) (kr1 := (78, 76)) (h1 := zg) rfl ?_
      refine wp_iast (z := zi) (j := (zi).toNat) (n := 16) rfl (by decide) (by decide) rfl rfl (by omega) (by omega) (by decide) ?_
      refine wp_run (k := 2) (pc1 := 7) (l1 := [(0, .ref 3), (1, .ref 1), (2, .int (iN (N))), (3, .int (iN ((zi) + 1)))]) (st1 := []) (kr1 := (78, 76)) (h1 := am_wr zg 16 ((zi).toNat) (iN (0))) (Eq.trans (b := (some (7, [(0, .ref 3), (1, .ref 1), (2, .int (iN (N))), (3, .int ((iN (zi)) + iN (1)))], [], (78, 76), am_wr zg 16 ((zi).toNat) (iN (0))) : Option am_C)) rfl (by simp only [Int32.ofInt_add, Int32.ofInt_sub, Int32.ofInt_mul, Int32.ofInt_neg])) ?_
      refine z_ih _ (zi + 1) (am_fr_w q_f (by decide) _ _) (by omega) (fun x y1 y2 => ?_) (by omega)
      by_cases y3 : x = zi
      · rw [y3, am_wr_at]
      · rw [am_wr_no (by omega)]; exact q_w x y1 (by omega)
set_option maxRecDepth 20000 in
set_option maxHeartbeats 4000000 in
theorem jl_tstock_36 (zd : Nat) (q_d : 2 ≤ zd) {zh : am_H} {N : Int} {G : Int → Int → Int} {S T : Int} {B : Int → Int} {za : Int} (q_nm : zNm (zh.1 34) (zh.1 35) N G S T) (q_g : zGk N G S T) (q_hd : zHd (zh.1 49) B 16) {zQ : Option Value → am_H → Prop} (zk : ∀ zg : am_H, am_fr [50] zh zg → (∀ x : Int, 0 ≤ x → x < N → zg.1 50 x.toNat = iN (zSt G B x)) → zQ none zg) : ∀ (z_n : Nat) (zg : am_H) (zi : Int) (zc : Int) (q_f : am_fr [50] zh zg) (q_i : 0 ≤ zi ∧ zi ≤ N) (q_z : zc = zSi B zi - zPi G zi) (q_w : ∀ x : Int, 0 ≤ x → x < zi → zg.1 50 x.toNat = iN (zSt G B x)), N - zi < (z_n : Int) → am_wp zd am_m_Plan_takeLots 154 [(0, .ref 36), (1, .ref 34), (2, .int (iN (N))), (3, .int (iN (za))), (4, .int (iN (zc))), (5, .int (iN (zi)))] [] (78, 76) zg (78, 76) zQ := by
  obtain ⟨zd, rfl⟩ : ∃ y_e, zd = y_e + 2 := ⟨zd - 2, by omega⟩
  intro z_n
  induction z_n with
  | zero => intro zg zi zc q_f q_i q_z q_w q_m; omega
  | succ z_n z_ih =>
    intro zg zi zc q_f q_i q_z q_w q_m
    have q_N := q_g.1
    refine wp_run (k := 2) (pc1 := 157) (l1 := [(0, .ref 36), (1, .ref 34), (2, .int (iN (N))), (3, .int (iN (za))), (4, .int (iN (zc))), (5, .int (iN (zi)))]) (st1 := [.int (iN (N)), .int (iN (zi))]) (kr1 := (78, 76)) (h1 := zg) rfl ?_
    refine wp_ge (a := zi) (b := N) rfl (by omega) (by omega) (fun b_157 => ?_) (fun b_157 => ?_)
    · refine wp_ret (rv := none) rfl ?_
      exact zk zg q_f (fun x y1 y2 => q_w x y1 (by omega))
    · refine wp_run (k := 4) (pc1 := 168) (l1 := [(0, .ref 36), (1, .ref 34), (2, .int (iN (N))), (3, .int (iN (za))), (4, .int (iN (zc))), (5, .int (iN (zi)))]) (st1 := [.int (iN (zi)), .ref 49, .int (iN (zc))]) (kr1 := (78, 76)) (h1 := zg) rfl ?_
      refine wp_call (md1 := am_m_Lp_at) (As := [.ref 49, .int (iN (zi))]) (rest := [.int (iN (zc))]) (kr1 := (78, 76)) rfl (jt_at _ (by omega) (zn := 16) (zi := zi) (zv := iN (B zi)) rfl rfl (by decide) (by omega) (by omega) ((congrFun (q_f.2 49 (by decide)) _).trans (q_hd zi (by omega) (by omega)))) ?_
      rintro _ _ ⟨rfl, rfl⟩
      refine wp_run (k := 3) (pc1 := 175) (l1 := [(0, .ref 36), (1, .ref 34), (2, .int (iN (N))), (3, .int (iN (za))), (4, .int (iN (zc))), (5, .int (iN (zi)))]) (st1 := [.int (iN (0)), .int (iN (zi)), .ref 34, .int (iN (B zi)), .int (iN (zc))]) (kr1 := (78, 76)) (h1 := zg) rfl ?_
      refine wp_call (md1 := am_m_Numbers_value) (As := [.ref 34, .int (iN (zi)), .int (iN (0))]) (rest := [.int (iN (B zi)), .int (iN (zc))]) (kr1 := (78, 76)) rfl (jt_value_34 _ (by omega) (zNm_f q_f q_nm (by decide) (by decide)) q_g (zp := zi) (zw := 0) (by omega) (by omega)) ?_
      rintro _ _ ⟨rfl, rfl⟩
      refine wp_run (k := 7) (pc1 := 190) (l1 := [(0, .ref 36), (1, .ref 34), (2, .int (iN (N))), (3, .int (iN (za))), (4, .int (iN ((zc) + ((B zi) - (G (0) (zi)))))), (5, .int (iN (zi)))]) (st1 := [.int (iN ((zc) + ((B zi) - (G (0) (zi))))), .int (iN (zi)), .ref 50]) (kr1 := (78, 76)) (h1 := zg) (Eq.trans (b := (some (190, [(0, .ref 36), (1, .ref 34), (2, .int (iN (N))), (3, .int (iN (za))), (4, .int ((iN (zc)) + ((iN (B zi)) - (iN (G (0) (zi)))))), (5, .int (iN (zi)))], [.int ((iN (zc)) + ((iN (B zi)) - (iN (G (0) (zi))))), .int (iN (zi)), .ref 50], (78, 76), zg) : Option am_C)) rfl (by simp only [Int32.ofInt_add, Int32.ofInt_sub, Int32.ofInt_mul, Int32.ofInt_neg])) ?_
      refine wp_call (md1 := am_m_Lp_lay) (As := [.ref 50, .int (iN (zi)), .int (iN ((zc) + ((B zi) - (G (0) (zi)))))]) (rest := []) (kr1 := (78, 76)) rfl (jt_lay _ (by omega) (zn := 16) (zi := zi) (zv := iN ((zc) + ((B zi) - (G (0) (zi))))) (by decide) (by decide) rfl rfl rfl (by decide) (by omega) (by omega)) ?_
      rintro _ _ ⟨rfl, rfl⟩
      refine wp_run (k := 2) (pc1 := 154) (l1 := [(0, .ref 36), (1, .ref 34), (2, .int (iN (N))), (3, .int (iN (za))), (4, .int (iN ((zc) + ((B zi) - (G (0) (zi)))))), (5, .int (iN ((zi) + 1)))]) (st1 := []) (kr1 := (78, 76)) (h1 := am_wr zg 50 (zi : Int).toNat (iN ((zc) + ((B zi) - (G (0) (zi)))))) (Eq.trans (b := (some (154, [(0, .ref 36), (1, .ref 34), (2, .int (iN (N))), (3, .int (iN (za))), (4, .int (iN ((zc) + ((B zi) - (G (0) (zi)))))), (5, .int ((iN (zi)) + iN (1)))], [], (78, 76), am_wr zg 50 (zi : Int).toNat (iN ((zc) + ((B zi) - (G (0) (zi)))))) : Option am_C)) rfl (by simp only [Int32.ofInt_add, Int32.ofInt_sub, Int32.ofInt_mul, Int32.ofInt_neg])) ?_
      have y_8 : (zc) + ((B zi) - (G (0) (zi))) = zSt G B zi := by unfold zSt; rw [q_z, zSi_s B zi (by omega), zPi_s G zi (by omega)]; omega
      refine z_ih _ (zi + 1) ((zc) + ((B zi) - (G (0) (zi)))) (am_fr_w q_f (by decide) _ _) (by omega) (y_8.trans rfl) (fun x y1 y2 => ?_) (by omega)
      by_cases y3 : x = zi
      · rw [y3, am_wr_at, y_8]
      · rw [am_wr_no (by omega)]; exact q_w x y1 (by omega)
set_option maxRecDepth 20000 in
set_option maxHeartbeats 4000000 in
theorem jl_tzero_36 (zd : Nat) (q_d : 2 ≤ zd) {zh : am_H} {N : Int}  {zQ : Option Value → am_H → Prop} (zk : ∀ zg : am_H, am_fr [49] zh zg → (∀ x : Int, 0 ≤ x → x < 16 → zg.1 49 x.toNat = iN 0) → am_wp zd am_m_Plan_takeLots 29 [(0, .ref 36), (1, .ref 34), (2, .int (iN (N))), (3, .int (iN (16)))] [] (78, 76) zg (78, 76) zQ) : ∀ (z_n : Nat) (zg : am_H) (zi : Int) (q_f : am_fr [49] zh zg) (q_i : 0 ≤ zi ∧ zi ≤ 16) (q_w : ∀ x : Int, 0 ≤ x → x < zi → zg.1 49 x.toNat = iN 0), 16 - zi < (z_n : Int) → am_wp zd am_m_Plan_takeLots 7 [(0, .ref 36), (1, .ref 34), (2, .int (iN (N))), (3, .int (iN (zi)))] [] (78, 76) zg (78, 76) zQ := by
  obtain ⟨zd, rfl⟩ : ∃ y_e, zd = y_e + 2 := ⟨zd - 2, by omega⟩
  intro z_n
  induction z_n with
  | zero => intro zg zi q_f q_i q_w q_m; omega
  | succ z_n z_ih =>
    intro zg zi q_f q_i q_w q_m
    refine wp_run (k := 3) (pc1 := 12) (l1 := [(0, .ref 36), (1, .ref 34), (2, .int (iN (N))), (3, .int (iN (zi)))]) (st1 := [.ref 49, .int (iN (zi))]) (kr1 := (78, 76)) (h1 := zg) rfl ?_
    refine wp_alen (v := 16) rfl rfl ?_
    refine wp_ge (a := zi) (b := 16) rfl (by omega) (by omega) (fun b_13 => ?_) (fun b_13 => ?_)
    · have y_9 : zi = 16 := by omega
      rw [y_9]
      exact zk zg q_f (fun x y1 y2 => q_w x y1 (by omega))
    · refine wp_run (k := 4) (pc1 := 22) (l1 := [(0, .ref 36), (1, .ref 34), (2, .int (iN (N))), (3, .int (iN (zi)))]) (st1 := [.int (iN (0)), .int (iN (zi)), .ref 49]) (kr1 := (78, 76)) (h1 := zg) rfl ?_
      refine wp_iast (z := zi) (j := (zi).toNat) (n := 16) rfl (by decide) (by decide) rfl rfl (by omega) (by omega) (by decide) ?_
      refine wp_run (k := 2) (pc1 := 7) (l1 := [(0, .ref 36), (1, .ref 34), (2, .int (iN (N))), (3, .int (iN ((zi) + 1)))]) (st1 := []) (kr1 := (78, 76)) (h1 := am_wr zg 49 ((zi).toNat) (iN (0))) (Eq.trans (b := (some (7, [(0, .ref 36), (1, .ref 34), (2, .int (iN (N))), (3, .int ((iN (zi)) + iN (1)))], [], (78, 76), am_wr zg 49 ((zi).toNat) (iN (0))) : Option am_C)) rfl (by simp only [Int32.ofInt_add, Int32.ofInt_sub, Int32.ofInt_mul, Int32.ofInt_neg])) ?_
      refine z_ih _ (zi + 1) (am_fr_w q_f (by decide) _ _) (by omega) (fun x y1 y2 => ?_) (by omega)
      by_cases y3 : x = zi
      · rw [y3, am_wr_at]
      · rw [am_wr_no (by omega)]; exact q_w x y1 (by omega)
