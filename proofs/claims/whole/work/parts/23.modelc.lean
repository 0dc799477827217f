/-! THE REFERENCE: hands taken, calm, fresh, changes -/
theorem bI_iff {P P' : Prop} (q1 : Decidable P) (q2 : Decidable P') (q : P ↔ P') : bI P q1 = bI P' q2 := by
  by_cases y : P
  · rw [show bI P q1 = 1 from if_pos y, show bI P' q2 = 1 from if_pos (q.mp y)]
  · rw [show bI P q1 = 0 from if_neg y, show bI P' q2 = 0 from if_neg (fun z => y (q.mpr z))]
theorem bI_01 (P : Prop) (q1 : Decidable P) : bI P q1 = 0 ∨ bI P q1 = 1 := by
  by_cases y : P
  · exact Or.inr (if_pos y)
  · exact Or.inl (if_neg y)
theorem zCalm_s {G : Int → Int → Int} {T zi : Int} (q : 1 ≤ zi) : zCalm (zi + 1) G T ↔ zCalm zi G T ∧ G 2 zi ≤ G 2 (zi - 1) + G 3 (zi - 1) := by
  refine ⟨fun y => ⟨⟨y.1, fun p q1 q2 => y.2 p q1 (by omega)⟩, y.2 zi q (by omega)⟩, fun y => ⟨y.1.1, fun p q1 q2 => ?_⟩⟩
  by_cases q3 : p = zi
  · rw [q3]; exact y.2
  · exact y.1.2 p q1 (by omega)
set_option maxRecDepth 20000 in
set_option maxHeartbeats 4000000 in
theorem jl_noHands (zd : Nat) (q_d : 0 ≤ zd) {zh : am_H} {N : Int} {G : Int → Int → Int} {S T : Int} (q_nm : zMm (zh.1 55) (zh.1 56) N G S T) (q_g : zGk N G S T) {zQ : Option Value → am_H → Prop} (zk : zQ (some (.int (iN 0))) (am_row zh 57 (zCq (zh.1 57) (fun _ => iN 0) (0 : Int).toNat (0 : Int).toNat (N : Int).toNat))) : ∀ (z_n : Nat) (zi : Int) (q_i : 0 ≤ zi ∧ zi ≤ N), N - zi < (z_n : Int) → am_wp zd am_m_Model_noHands 2 [(0, .ref 55), (1, .int (iN (zi)))] [] (78, 76) (am_row zh 57 (zCq (zh.1 57) (fun _ => iN 0) (0 : Int).toNat (0 : Int).toNat (zi : Int).toNat)) (78, 76) zQ := by
  obtain ⟨zd, rfl⟩ : ∃ y_e, zd = y_e + 0 := ⟨zd - 0, by omega⟩
  intro z_n
  induction z_n with
  | zero => intro zi q_i q_m; omega
  | succ z_n z_ih =>
    intro zi q_i q_m
    have q_N := q_g.1
    refine wp_run (k := 3) (pc1 := 7) (l1 := [(0, .ref 55), (1, .int (iN (zi)))]) (st1 := [.int (iN (N)), .int (iN (zi))]) (kr1 := (78, 76)) (h1 := am_row zh 57 (zCq (zh.1 57) (fun _ => iN 0) (0 : Int).toNat (0 : Int).toNat (zi : Int).toNat)) (Eq.trans (b := (some (7, [(0, .ref 55), (1, .int (iN (zi)))], [.int ((am_row zh 57 (zCq (zh.1 57) (fun _ => iN 0) (0 : Int).toNat (0 : Int).toNat (zi : Int).toNat)).1 55 0), .int (iN (zi))], (78, 76), am_row zh 57 (zCq (zh.1 57) (fun _ => iN 0) (0 : Int).toNat (0 : Int).toNat (zi : Int).toNat)) : Option am_C)) rfl (by simp only [(show (am_row zh 57 (zCq (zh.1 57) (fun _ => iN 0) (0 : Int).toNat (0 : Int).toNat (zi : Int).toNat)).1 55 0 = iN N from (congrFun (am_row_n _ _ _ (by decide)) 0).trans q_nm.1), Int32.ofInt_add, Int32.ofInt_sub, Int32.ofInt_mul, Int32.ofInt_neg])) ?_
    refine wp_ge (a := zi) (b := N) rfl (by omega) (by omega) (fun b_7 => ?_) (fun b_7 => ?_)
    · refine wp_run (k := 1) (pc1 := 24) (l1 := [(0, .ref 55), (1, .int (iN (zi)))]) (st1 := [.int (iN (0))]) (kr1 := (78, 76)) (h1 := am_row zh 57 (zCq (zh.1 57) (fun _ => iN 0) (0 : Int).toNat (0 : Int).toNat (zi : Int).toNat)) rfl ?_
      refine wp_ret (rv := some (.int (iN (0)))) rfl ?_
      rw [show zi = N by omega]
      exact zk
    · refine wp_run (k := 4) (pc1 := 16) (l1 := [(0, .ref 55), (1, .int (iN (zi)))]) (st1 := [.int (iN (0)), .int (iN (zi)), .ref 57]) (kr1 := (78, 76)) (h1 := am_row zh 57 (zCq (zh.1 57) (fun _ => iN 0) (0 : Int).toNat (0 : Int).toNat (zi : Int).toNat)) rfl ?_
      refine wp_iast (z := zi) (j := (zi).toNat) (n := 16) rfl (by decide) (by decide) rfl rfl (by omega) (by omega) (by decide) ?_
      refine wp_run (k := 2) (pc1 := 2) (l1 := [(0, .ref 55), (1, .int (iN ((zi) + 1)))]) (st1 := []) (kr1 := (78, 76)) (h1 := am_wr (am_row zh 57 (zCq (zh.1 57) (fun _ => iN 0) (0 : Int).toNat (0 : Int).toNat (zi : Int).toNat)) 57 ((zi).toNat) (iN (0))) (Eq.trans (b := (some (2, [(0, .ref 55), (1, .int ((iN (zi)) + iN (1)))], [], (78, 76), am_wr (am_row zh 57 (zCq (zh.1 57) (fun _ => iN 0) (0 : Int).toNat (0 : Int).toNat (zi : Int).toNat)) 57 ((zi).toNat) (iN (0))) : Option am_C)) rfl (by simp only [Int32.ofInt_add, Int32.ofInt_sub, Int32.ofInt_mul, Int32.ofInt_neg])) ?_
      rw [zCq_w zh 57 (zh.1 57) (fun _ => iN 0) 0 0 zi (by omega) (by omega) (by omega) (zj := zi) (by omega) rfl]
      exact z_ih (zi + 1) (by omega) (by omega)
set_option maxRecDepth 20000 in
set_option maxHeartbeats 4000000 in
theorem jm_noHands (zd : Nat) (q_d : 0 ≤ zd) {zh : am_H} {N : Int} {G : Int → Int → Int} {S T : Int} (q_nm : zMm (zh.1 55) (zh.1 56) N G S T) (q_g : zGk N G S T) : am_wp zd am_m_Model_noHands 0 [(0, .ref 55)] [] (78, 76) zh (78, 76) (fun rv h' => rv = some (.int (iN 0)) ∧ ∃ zf, am_row zh 57 zf = h' ∧ zHd zf (fun _ => 0) N) := by
  obtain ⟨zd, rfl⟩ : ∃ y_e, zd = y_e + 0 := ⟨zd - 0, by omega⟩
  have q_N := q_g.1
  refine wp_run (k := 2) (pc1 := 2) (l1 := [(0, .ref 55), (1, .int (iN (0)))]) (st1 := []) (kr1 := (78, 76)) (h1 := zh) rfl ?_
  refine Eq.mpr (congrArg (fun y_h => am_wp _ _ _ _ _ _ y_h _ _) (show zh = am_row zh 57 (zCq (zh.1 57) (fun _ => iN 0) (0 : Int).toNat (0 : Int).toNat (0 : Int).toNat) from by rw [show (0 : Int).toNat = 0 from rfl, zCq_0, am_row_id])) ?_
  exact jl_noHands _ (by omega) q_nm q_g ⟨rfl, _, rfl, fun p q1 q2 => zCq_i _ _ (by omega)⟩ 17 0 (by omega) (by omega)
set_option maxRecDepth 20000 in
set_option maxHeartbeats 4000000 in
theorem jl_hands_66 (zd : Nat) (q_d : 0 ≤ zd) {zh : am_H} {N : Int} {G : Int → Int → Int} {S T : Int} {B : Int → Int} (q_nm : zMm (zh.1 55) (zh.1 56) N G S T) (q_g : zGk N G S T) (q_hd : zHd (zh.1 66) B N) {zQ : Option Value → am_H → Prop} (zk : zQ (some (.int (iN (zSi B N)))) (am_row zh 57 (zCq (zh.1 57) (zh.1 66) (0 : Int).toNat (0 : Int).toNat (N : Int).toNat))) : ∀ (z_n : Nat) (zi : Int) (zs : Int) (q_i : 0 ≤ zi ∧ zi ≤ N) (q_z : zs = zSi B zi), N - zi < (z_n : Int) → am_wp zd am_m_Model_hands 4 [(0, .ref 55), (1, .ref 66), (2, .int (iN (zs))), (3, .int (iN (zi)))] [] (78, 76) (am_row zh 57 (zCq (zh.1 57) (zh.1 66) (0 : Int).toNat (0 : Int).toNat (zi : Int).toNat)) (78, 76) zQ := by
  obtain ⟨zd, rfl⟩ : ∃ y_e, zd = y_e + 0 := ⟨zd - 0, by omega⟩
  intro z_n
  induction z_n with
  | zero => intro zi zs q_i q_z q_m; omega
  | succ z_n z_ih =>
    intro zi zs q_i q_z q_m
    have q_N := q_g.1
    refine wp_run (k := 3) (pc1 := 9) (l1 := [(0, .ref 55), (1, .ref 66), (2, .int (iN (zs))), (3, .int (iN (zi)))]) (st1 := [.int (iN (N)), .int (iN (zi))]) (kr1 := (78, 76)) (h1 := am_row zh 57 (zCq (zh.1 57) (zh.1 66) (0 : Int).toNat (0 : Int).toNat (zi : Int).toNat)) (Eq.trans (b := (some (9, [(0, .ref 55), (1, .ref 66), (2, .int (iN (zs))), (3, .int (iN (zi)))], [.int ((am_row zh 57 (zCq (zh.1 57) (zh.1 66) (0 : Int).toNat (0 : Int).toNat (zi : Int).toNat)).1 55 0), .int (iN (zi))], (78, 76), am_row zh 57 (zCq (zh.1 57) (zh.1 66) (0 : Int).toNat (0 : Int).toNat (zi : Int).toNat)) : Option am_C)) rfl (by simp only [(show (am_row zh 57 (zCq (zh.1 57) (zh.1 66) (0 : Int).toNat (0 : Int).toNat (zi : Int).toNat)).1 55 0 = iN N from (congrFun (am_row_n _ _ _ (by decide)) 0).trans q_nm.1), Int32.ofInt_add, Int32.ofInt_sub, Int32.ofInt_mul, Int32.ofInt_neg])) ?_
    refine wp_ge (a := zi) (b := N) rfl (by omega) (by omega) (fun b_9 => ?_) (fun b_9 => ?_)
    · refine wp_run (k := 1) (pc1 := 34) (l1 := [(0, .ref 55), (1, .ref 66), (2, .int (iN (zs))), (3, .int (iN (zi)))]) (st1 := [.int (iN (zs))]) (kr1 := (78, 76)) (h1 := am_row zh 57 (zCq (zh.1 57) (zh.1 66) (0 : Int).toNat (0 : Int).toNat (zi : Int).toNat)) rfl ?_
      refine wp_ret (rv := some (.int (iN (zs)))) rfl ?_
      rw [q_z, show zi = N by omega]
      exact zk
    · refine wp_run (k := 5) (pc1 := 19) (l1 := [(0, .ref 55), (1, .ref 66), (2, .int (iN (zs))), (3, .int (iN (zi)))]) (st1 := [.int (iN (zi)), .ref 66, .int (iN (zi)), .ref 57]) (kr1 := (78, 76)) (h1 := am_row zh 57 (zCq (zh.1 57) (zh.1 66) (0 : Int).toNat (0 : Int).toNat (zi : Int).toNat)) rfl ?_
      refine wp_iald (f := (am_row zh 57 (zCq (zh.1 57) (zh.1 66) (0 : Int).toNat (0 : Int).toNat (zi : Int).toNat)).1 66) (z := zi) (j := zi.toNat) (n := 16) (v := iN (B zi)) rfl rfl (by omega) (by omega) (by decide) ((congrFun (am_row_n _ _ _ (by decide)) _).trans (q_hd zi (by omega) (by omega))) ?_
      refine wp_iast (z := zi) (j := (zi).toNat) (n := 16) rfl (by decide) (by decide) rfl rfl (by omega) (by omega) (by decide) ?_
      refine wp_run (k := 3) (pc1 := 24) (l1 := [(0, .ref 55), (1, .ref 66), (2, .int (iN (zs))), (3, .int (iN (zi)))]) (st1 := [.int (iN (zi)), .ref 66, .int (iN (zs))]) (kr1 := (78, 76)) (h1 := am_wr (am_row zh 57 (zCq (zh.1 57) (zh.1 66) (0 : Int).toNat (0 : Int).toNat (zi : Int).toNat)) 57 ((zi).toNat) (iN (B zi))) rfl ?_
      refine wp_iald (f := (am_wr (am_row zh 57 (zCq (zh.1 57) (zh.1 66) (0 : Int).toNat (0 : Int).toNat (zi : Int).toNat)) 57 ((zi).toNat) (iN (B zi))).1 66) (z := zi) (j := zi.toNat) (n := 16) (v := iN (B zi)) rfl rfl (by omega) (by omega) (by decide) ((congrFun (am_wr_ne (by decide)) _).trans ((congrFun (am_row_n _ _ _ (by decide)) _).trans (q_hd zi (by omega) (by omega)))) ?_
      refine wp_run (k := 4) (pc1 := 4) (l1 := [(0, .ref 55), (1, .ref 66), (2, .int (iN ((zs) + (B zi)))), (3, .int (iN ((zi) + 1)))]) (st1 := []) (kr1 := (78, 76)) (h1 := am_wr (am_row zh 57 (zCq (zh.1 57) (zh.1 66) (0 : Int).toNat (0 : Int).toNat (zi : Int).toNat)) 57 ((zi).toNat) (iN (B zi))) (Eq.trans (b := (some (4, [(0, .ref 55), (1, .ref 66), (2, .int ((iN (zs)) + (iN (B zi)))), (3, .int ((iN (zi)) + iN (1)))], [], (78, 76), am_wr (am_row zh 57 (zCq (zh.1 57) (zh.1 66) (0 : Int).toNat (0 : Int).toNat (zi : Int).toNat)) 57 ((zi).toNat) (iN (B zi))) : Option am_C)) rfl (by simp only [Int32.ofInt_add, Int32.ofInt_sub, Int32.ofInt_mul, Int32.ofInt_neg])) ?_
      rw [zCq_w zh 57 (zh.1 57) (zh.1 66) 0 0 zi (by omega) (by omega) (by omega) (zj := zi) (by omega) ((q_hd zi (by omega) (by omega)).symm.trans (congrArg (zh.1 66) (by omega)))]
      exact z_ih (zi + 1) ((zs) + (B zi)) (by omega) (by rw [q_z, zSi_s B zi (by omega)]) (by omega)
set_option maxRecDepth 20000 in
set_option maxHeartbeats 4000000 in
theorem jm_hands_66 (zd : Nat) (q_d : 0 ≤ zd) {zh : am_H} {N : Int} {G : Int → Int → Int} {S T : Int} {B : Int → Int} (q_nm : zMm (zh.1 55) (zh.1 56) N G S T) (q_g : zGk N G S T) (q_hd : zHd (zh.1 66) B N) : am_wp zd am_m_Model_hands 0 [(0, .ref 55), (1, .ref 66)] [] (78, 76) zh (78, 76) (fun rv h' => rv = some (.int (iN (zSi B N))) ∧ ∃ zf, am_row zh 57 zf = h' ∧ zHd zf B N) := by
  obtain ⟨zd, rfl⟩ : ∃ y_e, zd = y_e + 0 := ⟨zd - 0, by omega⟩
  have q_N := q_g.1
  refine wp_run (k := 4) (pc1 := 4) (l1 := [(0, .ref 55), (1, .ref 66), (2, .int (iN (0))), (3, .int (iN (0)))]) (st1 := []) (kr1 := (78, 76)) (h1 := zh) rfl ?_
  refine Eq.mpr (congrArg (fun y_h => am_wp _ _ _ _ _ _ y_h _ _) (show zh = am_row zh 57 (zCq (zh.1 57) (zh.1 66) (0 : Int).toNat (0 : Int).toNat (0 : Int).toNat) from by rw [show (0 : Int).toNat = 0 from rfl, zCq_0, am_row_id])) ?_
  exact jl_hands_66 _ (by omega) q_nm q_g q_hd ⟨rfl, _, rfl, fun p q1 q2 => (zCq_i _ _ (by omega)).trans ((congrArg (zh.1 66) (by omega)).trans (q_hd p q1 q2))⟩ 17 0 0 (by omega) rfl (by omega)
set_option maxRecDepth 20000 in
set_option maxHeartbeats 4000000 in
theorem jl_hands_71 (zd : Nat) (q_d : 0 ≤ zd) {zh : am_H} {N : Int} {G : Int → Int → Int} {S T : Int} {B : Int → Int} (q_nm : zMm (zh.1 55) (zh.1 56) N G S T) (q_g : zGk N G S T) (q_hd : zHd (zh.1 71) B N) {zQ : Option Value → am_H → Prop} (zk : zQ (some (.int (iN (zSi B N)))) (am_row zh 57 (zCq (zh.1 57) (zh.1 71) (0 : Int).toNat (0 : Int).toNat (N : Int).toNat))) : ∀ (z_n : Nat) (zi : Int) (zs : Int) (q_i : 0 ≤ zi ∧ zi ≤ N) (q_z : zs = zSi B zi), N - zi < (z_n : Int) → am_wp zd am_m_Model_hands 4 [(0, .ref 55), (1, .ref 71), (2, .int (iN (zs))), (3, .int (iN (zi)))] [] (78, 76) (am_row zh 57 (zCq (zh.1 57) (zh.1 71) (0 : Int).toNat (0 : Int).toNat (zi : Int).toNat)) (78, 76) zQ := by
  obtain ⟨zd, rfl⟩ : ∃ y_e, zd = y_e + 0 := ⟨zd - 0, by omega⟩
  intro z_n
  induction z_n with
  | zero => intro zi zs q_i q_z q_m; omega
  | succ z_n z_ih =>
    intro zi zs q_i q_z q_m
    have q_N := q_g.1
    refine wp_run (k := 3) (pc1 := 9) (l1 := [(0, .ref 55), (1, .ref 71), (2, .int (iN (zs))), (3, .int (iN (zi)))]) (st1 := [.int (iN (N)), .int (iN (zi))]) (kr1 := (78, 76)) (h1 := am_row zh 57 (zCq (zh.1 57) (zh.1 71) (0 : Int).toNat (0 : Int).toNat (zi : Int).toNat)) (Eq.trans (b := (some (9, [(0, .ref 55), (1, .ref 71), (2, .int (iN (zs))), (3, .int (iN (zi)))], [.int ((am_row zh 57 (zCq (zh.1 57) (zh.1 71) (0 : Int).toNat (0 : Int).toNat (zi : Int).toNat)).1 55 0), .int (iN (zi))], (78, 76), am_row zh 57 (zCq (zh.1 57) (zh.1 71) (0 : Int).toNat (0 : Int).toNat (zi : Int).toNat)) : Option am_C)) rfl (by simp only [(show (am_row zh 57 (zCq (zh.1 57) (zh.1 71) (0 : Int).toNat (0 : Int).toNat (zi : Int).toNat)).1 55 0 = iN N from (congrFun (am_row_n _ _ _ (by decide)) 0).trans q_nm.1), Int32.ofInt_add, Int32.ofInt_sub, Int32.ofInt_mul, Int32.ofInt_neg])) ?_
    refine wp_ge (a := zi) (b := N) rfl (by omega) (by omega) (fun b_9 => ?_) (fun b_9 => ?_)
    · refine wp_run (k := 1) (pc1 := 34) (l1 := [(0, .ref 55), (1, .ref 71), (2, .int (iN (zs))), (3, .int (iN (zi)))]) (st1 := [.int (iN (zs))]) (kr1 := (78, 76)) (h1 := am_row zh 57 (zCq (zh.1 57) (zh.1 71) (0 : Int).toNat (0 : Int).toNat (zi : Int).toNat)) rfl ?_
      refine wp_ret (rv := some (.int (iN (zs)))) rfl ?_
      rw [q_z, show zi = N by omega]
      exact zk
    · refine wp_run (k := 5) (pc1 := 19) (l1 := [(0, .ref 55), (1, .ref 71), (2, .int (iN (zs))), (3, .int (iN (zi)))]) (st1 := [.int (iN (zi)), .ref 71, .int (iN (zi)), .ref 57]) (kr1 := (78, 76)) (h1 := am_row zh 57 (zCq (zh.1 57) (zh.1 71) (0 : Int).toNat (0 : Int).toNat (zi : Int).toNat)) rfl ?_
      refine wp_iald (f := (am_row zh 57 (zCq (zh.1 57) (zh.1 71) (0 : Int).toNat (0 : Int).toNat (zi : Int).toNat)).1 71) (z := zi) (j := zi.toNat) (n := 16) (v := iN (B zi)) rfl rfl (by omega) (by omega) (by decide) ((congrFun (am_row_n _ _ _ (by decide)) _).trans (q_hd zi (by omega) (by omega))) ?_
      refine wp_iast (z := zi) (j := (zi).toNat) (n := 16) rfl (by decide) (by decide) rfl rfl (by omega) (by omega) (by decide) ?_
      refine wp_run (k := 3) (pc1 := 24) (l1 := [(0, .ref 55), (1, .ref 71), (2, .int (iN (zs))), (3, .int (iN (zi)))]) (st1 := [.int (iN (zi)), .ref 71, .int (iN (zs))]) (kr1 := (78, 76)) (h1 := am_wr (am_row zh 57 (zCq (zh.1 57) (zh.1 71) (0 : Int).toNat (0 : Int).toNat (zi : Int).toNat)) 57 ((zi).toNat) (iN (B zi))) rfl ?_
      refine wp_iald (f := (am_wr (am_row zh 57 (zCq (zh.1 57) (zh.1 71) (0 : Int).toNat (0 : Int).toNat (zi : Int).toNat)) 57 ((zi).toNat) (iN (B zi))).1 71) (z := zi) (j := zi.toNat) (n := 16) (v := iN (B zi)) rfl rfl (by omega) (by omega) (by decide) ((congrFun (am_wr_ne (by decide)) _).trans ((congrFun (am_row_n _ _ _ (by decide)) _).trans (q_hd zi (by omega) (by omega)))) ?_
      refine wp_run (k := 4) (pc1 := 4) (l1 := [(0, .ref 55), (1, .ref 71), (2, .int (iN ((zs) + (B zi)))), (3, .int (iN ((zi) + 1)))]) (st1 := []) (kr1 := (78, 76)) (h1 := am_wr (am_row zh 57 (zCq (zh.1 57) (zh.1 71) (0 : Int).toNat (0 : Int).toNat (zi : Int).toNat)) 57 ((zi).toNat) (iN (B zi))) (Eq.trans (b := (some (4, [(0, .ref 55), (1, .ref 71), (2, .int ((iN (zs)) + (iN (B zi)))), (3, .int ((iN (zi)) + iN (1)))], [], (78, 76), am_wr (am_row zh 57 (zCq (zh.1 57) (zh.1 71) (0 : Int).toNat (0 : Int).toNat (zi : Int).toNat)) 57 ((zi).toNat) (iN (B zi))) : Option am_C)) rfl (by simp only [Int32.ofInt_add, Int32.ofInt_sub, Int32.ofInt_mul, Int32.ofInt_neg])) ?_
      rw [zCq_w zh 57 (zh.1 57) (zh.1 71) 0 0 zi (by omega) (by omega) (by omega) (zj := zi) (by omega) ((q_hd zi (by omega) (by omega)).symm.trans (congrArg (zh.1 71) (by omega)))]
      exact z_ih (zi + 1) ((zs) + (B zi)) (by omega) (by rw [q_z, zSi_s B zi (by omega)]) (by omega)
set_option maxRecDepth 20000 in
set_option maxHeartbeats 4000000 in
theorem jm_hands_71 (zd : Nat) (q_d : 0 ≤ zd) {zh : am_H} {N : Int} {G : Int → Int → Int} {S T : Int} {B : Int → Int} (q_nm : zMm (zh.1 55) (zh.1 56) N G S T) (q_g : zGk N G S T) (q_hd : zHd (zh.1 71) B N) : am_wp zd am_m_Model_hands 0 [(0, .ref 55), (1, .ref 71)] [] (78, 76) zh (78, 76) (fun rv h' => rv = some (.int (iN (zSi B N))) ∧ ∃ zf, am_row zh 57 zf = h' ∧ zHd zf B N) := by
  obtain ⟨zd, rfl⟩ : ∃ y_e, zd = y_e + 0 := ⟨zd - 0, by omega⟩
  have q_N := q_g.1
  refine wp_run (k := 4) (pc1 := 4) (l1 := [(0, .ref 55), (1, .ref 71), (2, .int (iN (0))), (3, .int (iN (0)))]) (st1 := []) (kr1 := (78, 76)) (h1 := zh) rfl ?_
  refine Eq.mpr (congrArg (fun y_h => am_wp _ _ _ _ _ _ y_h _ _) (show zh = am_row zh 57 (zCq (zh.1 57) (zh.1 71) (0 : Int).toNat (0 : Int).toNat (0 : Int).toNat) from by rw [show (0 : Int).toNat = 0 from rfl, zCq_0, am_row_id])) ?_
  exact jl_hands_71 _ (by omega) q_nm q_g q_hd ⟨rfl, _, rfl, fun p q1 q2 => (zCq_i _ _ (by omega)).trans ((congrArg (zh.1 71) (by omega)).trans (q_hd p q1 q2))⟩ 17 0 0 (by omega) rfl (by omega)
set_option maxRecDepth 20000 in
set_option maxHeartbeats 4000000 in
theorem jl_isCalm (zd : Nat) (q_d : 1 ≤ zd) {zh : am_H} {N : Int} {G : Int → Int → Int} {S T : Int} (q_nm : zMm (zh.1 55) (zh.1 56) N G S T) (q_g : zGk N G S T) {zQ : Option Value → am_H → Prop} (zk : am_wp zd am_m_Model_isCalm 63 [(0, .ref 55), (1, .int (iN (bI (zCalm N G T) (Classical.propDecidable _)))), (2, .int (iN (N)))] [] (78, 76) zh (78, 76) zQ) : ∀ (z_n : Nat) (zi : Int) (zb : Int) (q_i : 1 ≤ zi ∧ zi ≤ N) (q_z : zb = bI (zCalm zi G T) (Classical.propDecidable _)), N - zi < (z_n : Int) → am_wp zd am_m_Model_isCalm 15 [(0, .ref 55), (1, .int (iN (zb))), (2, .int (iN (zi)))] [] (78, 76) zh (78, 76) zQ := by
  obtain ⟨zd, rfl⟩ : ∃ y_e, zd = y_e + 1 := ⟨zd - 1, by omega⟩
  intro z_n
  induction z_n with
  | zero => intro zi zb q_i q_z q_m; omega
  | succ z_n z_ih =>
    intro zi zb q_i q_z q_m
    have q_N := q_g.1
    refine wp_run (k := 3) (pc1 := 20) (l1 := [(0, .ref 55), (1, .int (iN (zb))), (2, .int (iN (zi)))]) (st1 := [.int (iN (N)), .int (iN (zi))]) (kr1 := (78, 76)) (h1 := zh) (Eq.trans (b := (some (20, [(0, .ref 55), (1, .int (iN (zb))), (2, .int (iN (zi)))], [.int (zh.1 55 0), .int (iN (zi))], (78, 76), zh) : Option am_C)) rfl (by simp only [q_nm.1, Int32.ofInt_add, Int32.ofInt_sub, Int32.ofInt_mul, Int32.ofInt_neg])) ?_
    refine wp_ge (a := zi) (b := N) rfl (by omega) (by omega) (fun b_20 => ?_) (fun b_20 => ?_)
    · rw [q_z, show zi = N by omega]
      exact zk
    · have y_1 := q_g.2.1 2 zi (by omega) (by omega) (by omega) (by omega)
      have y_2 := q_g.2.1 2 (zi - 1) (by omega) (by omega) (by omega) (by omega)
      have y_3 := q_g.2.1 3 (zi - 1) (by omega) (by omega) (by omega) (by omega)
      have y_v := (show vmax 2 = 99 from rfl)
      have y_w := (show vmax 3 = 99 from rfl)
      have q_b : zb = 0 ∨ zb = 1 := by rw [q_z]; exact bI_01 _ _
      refine wp_run (k := 4) (pc1 := 27) (l1 := [(0, .ref 55), (1, .int (iN (zb))), (2, .int (iN (zi)))]) (st1 := [.int (iN (zi)), .int (iN (2)), .ref 55, .int (iN (zb))]) (kr1 := (78, 76)) (h1 := zh) rfl ?_
      refine wp_call (md1 := am_m_Model_num) (As := [.ref 55, .int (iN (2)), .int (iN (zi))]) (rest := [.int (iN (zb))]) (kr1 := (78, 76)) rfl (jm_num _ (by omega) q_nm q_g (zw := 2) (zp := zi) (by omega) (by omega)) ?_
      rintro _ _ ⟨rfl, rfl⟩
      refine wp_run (k := 5) (pc1 := 35) (l1 := [(0, .ref 55), (1, .int (iN (zb))), (2, .int (iN (zi)))]) (st1 := [.int (iN ((zi) - (1))), .int (iN (2)), .ref 55, .int (iN (G (2) (zi))), .int (iN (zb))]) (kr1 := (78, 76)) (h1 := zh) (Eq.trans (b := (some (35, [(0, .ref 55), (1, .int (iN (zb))), (2, .int (iN (zi)))], [.int ((iN (zi)) - (iN (1))), .int (iN (2)), .ref 55, .int (iN (G (2) (zi))), .int (iN (zb))], (78, 76), zh) : Option am_C)) rfl (by simp only [Int32.ofInt_add, Int32.ofInt_sub, Int32.ofInt_mul, Int32.ofInt_neg])) ?_
      refine wp_call (md1 := am_m_Model_num) (As := [.ref 55, .int (iN (2)), .int (iN ((zi) - (1)))]) (rest := [.int (iN (G (2) (zi))), .int (iN (zb))]) (kr1 := (78, 76)) rfl (jm_num _ (by omega) q_nm q_g (zw := 2) (zp := (zi) - (1)) (by omega) (by omega)) ?_
      rintro _ _ ⟨rfl, rfl⟩
      refine wp_run (k := 5) (pc1 := 43) (l1 := [(0, .ref 55), (1, .int (iN (zb))), (2, .int (iN (zi)))]) (st1 := [.int (iN ((zi) - (1))), .int (iN (3)), .ref 55, .int (iN (G (2) ((zi) - (1)))), .int (iN (G (2) (zi))), .int (iN (zb))]) (kr1 := (78, 76)) (h1 := zh) (Eq.trans (b := (some (43, [(0, .ref 55), (1, .int (iN (zb))), (2, .int (iN (zi)))], [.int ((iN (zi)) - (iN (1))), .int (iN (3)), .ref 55, .int (iN (G (2) ((zi) - (1)))), .int (iN (G (2) (zi))), .int (iN (zb))], (78, 76), zh) : Option am_C)) rfl (by simp only [Int32.ofInt_add, Int32.ofInt_sub, Int32.ofInt_mul, Int32.ofInt_neg])) ?_
      refine wp_call (md1 := am_m_Model_num) (As := [.ref 55, .int (iN (3)), .int (iN ((zi) - (1)))]) (rest := [.int (iN (G (2) ((zi) - (1)))), .int (iN (G (2) (zi))), .int (iN (zb))]) (kr1 := (78, 76)) rfl (jm_num _ (by omega) q_nm q_g (zw := 3) (zp := (zi) - (1)) (by omega) (by omega)) ?_
      rintro _ _ ⟨rfl, rfl⟩
      refine wp_run (k := 1) (pc1 := 47) (l1 := [(0, .ref 55), (1, .int (iN (zb))), (2, .int (iN (zi)))]) (st1 := [.int (iN ((G (2) ((zi) - (1))) + (G (3) ((zi) - (1))))), .int (iN (G (2) (zi))), .int (iN (zb))]) (kr1 := (78, 76)) (h1 := zh) (Eq.trans (b := (some (47, [(0, .ref 55), (1, .int (iN (zb))), (2, .int (iN (zi)))], [.int ((iN (G (2) ((zi) - (1)))) + (iN (G (3) ((zi) - (1))))), .int (iN (G (2) (zi))), .int (iN (zb))], (78, 76), zh) : Option am_C)) rfl (by simp only [Int32.ofInt_add, Int32.ofInt_sub, Int32.ofInt_mul, Int32.ofInt_neg])) ?_
      refine wp_gt (a := G (2) (zi)) (b := (G (2) ((zi) - (1))) + (G (3) ((zi) - (1)))) rfl (by omega) (by omega) (fun b_47 => ?_) (fun b_47 => ?_)
      · refine wp_run (k := 5) (pc1 := 15) (l1 := [(0, .ref 55), (1, .int ((iN (zb)) &&& (iN (0)))), (2, .int (iN ((zi) + 1)))]) (st1 := []) (kr1 := (78, 76)) (h1 := zh) (Eq.trans (b := (some (15, [(0, .ref 55), (1, .int ((iN (zb)) &&& (iN (0)))), (2, .int ((iN (zi)) + iN (1)))], [], (78, 76), zh) : Option am_C)) rfl (by simp only [Int32.ofInt_add, Int32.ofInt_sub, Int32.ofInt_mul, Int32.ofInt_neg])) ?_
        rw [show (iN (zb)) &&& (iN (0)) = iN (0) from by rcases q_b with rfl | rfl <;> decide]
        exact z_ih (zi + 1) (0) (by omega) (by exact (if_neg (fun y => by have y_9 := ((zCalm_s (by omega)).mp y).2; omega)).symm) (by omega)
      · refine wp_run (k := 6) (pc1 := 15) (l1 := [(0, .ref 55), (1, .int ((iN (zb)) &&& (iN (1)))), (2, .int (iN ((zi) + 1)))]) (st1 := []) (kr1 := (78, 76)) (h1 := zh) (Eq.trans (b := (some (15, [(0, .ref 55), (1, .int ((iN (zb)) &&& (iN (1)))), (2, .int ((iN (zi)) + iN (1)))], [], (78, 76), zh) : Option am_C)) rfl (by simp only [Int32.ofInt_add, Int32.ofInt_sub, Int32.ofInt_mul, Int32.ofInt_neg])) ?_
        rw [show (iN (zb)) &&& (iN (1)) = iN (zb) from by rcases q_b with rfl | rfl <;> decide]
        exact z_ih (zi + 1) (zb) (by omega) (by rw [q_z]; exact bI_iff _ _ ⟨fun y => (zCalm_s (by omega)).mpr ⟨y, by omega⟩, fun y => ((zCalm_s (by omega)).mp y).1⟩) (by omega)
set_option maxRecDepth 20000 in
set_option maxHeartbeats 4000000 in
theorem jm_isCalm (zd : Nat) (q_d : 1 ≤ zd) {zh : am_H} {N : Int} {G : Int → Int → Int} {S T : Int} (q_nm : zMm (zh.1 55) (zh.1 56) N G S T) (q_g : zGk N G S T) : am_wp zd am_m_Model_isCalm 0 [(0, .ref 55)] [] (78, 76) zh (78, 76) (fun rv h' => rv = some (.int (iN (bI (zCalm N G T) (Classical.propDecidable _)))) ∧ zh = h') := by
  obtain ⟨zd, rfl⟩ : ∃ y_e, zd = y_e + 1 := ⟨zd - 1, by omega⟩
  have q_N := q_g.1
  have q_T := q_g.2.2.2
  refine wp_run (k := 1) (pc1 := 1) (l1 := [(0, .ref 55)]) (st1 := [.ref 55]) (kr1 := (78, 76)) (h1 := zh) rfl ?_
  refine wp_call (md1 := am_m_Model_isLate) (As := [.ref 55]) (rest := []) (kr1 := (78, 76)) rfl (jm_isLate _ (by omega) q_nm q_g) ?_
  rintro _ _ ⟨rfl, rfl⟩
  refine wp_neb rfl (fun b_4 => ?_) (fun b_4 => ?_)
  · refine wp_run (k := 4) (pc1 := 15) (l1 := [(0, .ref 55), (1, .int (iN (0))), (2, .int (iN (1)))]) (st1 := []) (kr1 := (78, 76)) (h1 := zh) rfl ?_
    refine jl_isCalm _ (by omega) q_nm q_g ?_ 17 1 (0) (by omega) (by exact (if_neg (fun y => by have y1 := y.1; omega)).symm) (by omega)
    refine wp_run (k := 1) (pc1 := 64) (l1 := [(0, .ref 55), (1, .int (iN (bI (zCalm N G T) (Classical.propDecidable _)))), (2, .int (iN (N)))]) (st1 := [.int (iN (bI (zCalm N G T) (Classical.propDecidable _)))]) (kr1 := (78, 76)) (h1 := zh) rfl ?_
    refine wp_retb rfl rfl ?_
    exact ⟨rfl, rfl⟩
  · refine wp_run (k := 5) (pc1 := 15) (l1 := [(0, .ref 55), (1, .int (iN (1))), (2, .int (iN (1)))]) (st1 := []) (kr1 := (78, 76)) (h1 := zh) rfl ?_
    refine jl_isCalm _ (by omega) q_nm q_g ?_ 17 1 (1) (by omega) (by exact (if_pos ⟨by omega, fun p q1 q2 => by omega⟩).symm) (by omega)
    refine wp_run (k := 1) (pc1 := 64) (l1 := [(0, .ref 55), (1, .int (iN (bI (zCalm N G T) (Classical.propDecidable _)))), (2, .int (iN (N)))]) (st1 := [.int (iN (bI (zCalm N G T) (Classical.propDecidable _)))]) (kr1 := (78, 76)) (h1 := zh) rfl ?_
    refine wp_retb rfl rfl ?_
    exact ⟨rfl, rfl⟩
