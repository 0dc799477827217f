/-! THE CLASS's methods: by hand as planned -/
theorem zBst_0 {N : Int} {G : Int → Int → Int} {S T : Int} (q : zBst N G S T = 0) : zD G 0 (N - 1) ≤ 120 ∧ zVb N G S T (zD G 0 (N - 1)) 0 0 < 1000000000 := by
  unfold zBst at q
  by_cases y1 : 120 < zD G 0 (N - 1)
  · rw [if_pos y1] at q; omega
  · rw [if_neg y1] at q
    by_cases y2 : zVb N G S T (zD G 0 (N - 1)) 0 0 < 1000000000
    · exact ⟨by omega, y2⟩
    · rw [if_neg y2] at q; omega
set_option maxRecDepth 20000 in
set_option maxHeartbeats 4000000 in
theorem jl_handAs0 (zd : Nat) (q_d : 4 ≤ zd) {zh : am_H} {N : Int} {G : Int → Int → Int} {S T : Int} {zC B : Int → Int} (q_nm : zNm (zh.1 1) (zh.1 2) N G S T) (q_g : zGk N G S T) (q_C : ∀ x : Int, 0 ≤ x → x < N → zh.1 16 x.toNat = iN (zC x)) (q_kb : zHk N B) (q_kc : zHk N zC) {zQ : Option Value → am_H → Prop} (zk2 : ∀ zg : am_H, am_fr [24] zh zg → zHd (zg.1 24) zC 16 → zQ (some (.int (iN (zSi zC 16)))) zg) : ∀ (z_n : Nat) (zg : am_H) (zi : Int) (q_fr : am_fr [24] zh zg) (q_i : 0 ≤ zi ∧ zi ≤ N) (q_w : ∀ x : Int, 0 ≤ x → x < 16 → zg.1 24 x.toNat = iN (if x < zi then zC x else B x)), N + 1 - zi < (z_n : Int) → am_wp zd am_m_Lp_handAs 52 [(0, .ref 0), (1, .int (iN (0))), (2, .ref 3), (3, .int (iN (zi)))] [] (78, 76) zg (78, 76) zQ := by
  obtain ⟨zd, rfl⟩ : ∃ y_e, zd = y_e + 4 := ⟨zd - 4, by omega⟩
  intro z_n
  induction z_n with
  | zero => intro zg zi q_fr q_i q_w q_m; omega
  | succ z_n z_ih =>
    intro zg zi q_fr q_i q_w q_m
    have q_N := q_g.1
    refine wp_run (k := 3) (pc1 := 57) (l1 := [(0, .ref 0), (1, .int (iN (0))), (2, .ref 3), (3, .int (iN (zi)))]) (st1 := [.ref 1, .int (iN (zi))]) (kr1 := (78, 76)) (h1 := zg) rfl ?_
    refine wp_call (md1 := am_m_Numbers_size) (As := [.ref 1]) (rest := [.int (iN (zi))]) (kr1 := (78, 76)) rfl (jt_size_1 _ (by omega) (zNm_f q_fr q_nm (by decide) (by decide)) q_g) ?_
    rintro _ _ ⟨rfl, rfl⟩
    refine wp_ge (a := zi) (b := N) rfl (by omega) (by omega) (fun b_60 => ?_) (fun b_60 => ?_)
    · have q_hd : zHd (zg.1 24) zC 16 := by
        intro x y1 y2
        rw [q_w x y1 y2]
        by_cases y4 : x < zi
        · rw [if_pos y4]
        · rw [if_neg y4, q_kb.2 x (by omega), q_kc.2 x (by omega)]
      refine wp_run (k := 2) (pc1 := 110) (l1 := [(0, .ref 0), (1, .int (iN (0))), (2, .ref 3), (3, .int (iN (zi)))]) (st1 := [.ref 23]) (kr1 := (78, 76)) (h1 := zg) rfl ?_
      refine wp_call (md1 := am_m_ByHand_pieces) (As := [.ref 23]) (rest := []) (kr1 := (78, 76)) rfl (jt_hpieces (B := zC) _ (by omega) q_hd) ?_
      rintro _ _ ⟨rfl, rfl⟩
      refine wp_ret (rv := some (.int (iN (zSi zC 16)))) rfl ?_
      exact zk2 zg q_fr q_hd
    · refine wp_run (k := 4) (pc1 := 69) (l1 := [(0, .ref 0), (1, .int (iN (0))), (2, .ref 3), (3, .int (iN (zi)))]) (st1 := [.int (iN (0)), .int (iN (zi)), .ref 23]) (kr1 := (78, 76)) (h1 := zg) rfl ?_
      refine wp_ne0 (a := 0) rfl (by omega) (fun b_69 => ?_) (fun b_69 => ?_)
      · exact absurd b_69 (by decide)
      · refine wp_run (k := 2) (pc1 := 74) (l1 := [(0, .ref 0), (1, .int (iN (0))), (2, .ref 3), (3, .int (iN (zi)))]) (st1 := [.int (iN (zi)), .ref 3, .int (iN (zi)), .ref 23]) (kr1 := (78, 76)) (h1 := zg) rfl ?_
        refine wp_call (md1 := am_m_Plan_made) (As := [.ref 3, .int (iN (zi))]) (rest := [.int (iN (zi)), .ref 23]) (kr1 := (78, 76)) rfl (jg_Plan_made_3 _ (by omega) (zp := zi) (by omega) ((congrFun (q_fr.2 16 (by decide)) _).trans (q_C zi (by omega) (by omega)))) ?_
        rintro _ _ ⟨rfl, rfl⟩
        refine wp_run (k := 1) (pc1 := 97) (l1 := [(0, .ref 0), (1, .int (iN (0))), (2, .ref 3), (3, .int (iN (zi)))]) (st1 := [.int (iN (zC zi)), .int (iN (zi)), .ref 23]) (kr1 := (78, 76)) (h1 := zg) rfl ?_
        refine wp_call (md1 := am_m_ByHand_make) (As := [.ref 23, .int (iN (zi)), .int (iN (zC zi))]) (rest := []) (kr1 := (78, 76)) rfl (jt_hmake (zp := zi) (zv := zC zi) _ (by omega) (by omega)) ?_
        rintro _ _ ⟨rfl, rfl⟩
        refine wp_run (k := 2) (pc1 := 52) (l1 := [(0, .ref 0), (1, .int (iN (0))), (2, .ref 3), (3, .int (iN ((zi) + 1)))]) (st1 := []) (kr1 := (78, 76)) (h1 := am_row zg 24 (zUp (zg.1 24) (zi : Int).toNat (iN (zC zi)))) (Eq.trans (b := (some (52, [(0, .ref 0), (1, .int (iN (0))), (2, .ref 3), (3, .int ((iN (zi)) + iN (1)))], [], (78, 76), am_row zg 24 (zUp (zg.1 24) (zi : Int).toNat (iN (zC zi)))) : Option am_C)) rfl (by simp only [Int32.ofInt_add, Int32.ofInt_sub, Int32.ofInt_mul, Int32.ofInt_neg])) ?_
        refine z_ih (am_row zg 24 (zUp (zg.1 24) (zi : Int).toNat (iN (zC zi)))) (zi + 1) (am_fr_r q_fr (by decide) _) (by omega) (fun x y1 y2 => ?_) (by omega)
        rw [am_row_s]
        by_cases y3 : x = zi
        · rw [y3, zUp_s, if_pos (by omega)]
        · rw [zUp_n _ _ _ (by omega), q_w x y1 y2]
          by_cases y4 : x < zi
          · rw [if_pos y4, if_pos (by omega)]
          · rw [if_neg y4, if_neg (by omega)]
set_option maxRecDepth 20000 in
set_option maxHeartbeats 4000000 in
theorem jl_handAs1 (zd : Nat) (q_d : 4 ≤ zd) {zh : am_H} {N : Int} {G : Int → Int → Int} {S T : Int} {zC B : Int → Int} (q_nm : zNm (zh.1 1) (zh.1 2) N G S T) (q_g : zGk N G S T) (q_C : ∀ x : Int, 0 ≤ x → x < N → zh.1 21 x.toNat = iN (zC x)) (q_kb : zHk N B) (q_kc : zHk N zC) {zQ : Option Value → am_H → Prop} (zk2 : ∀ zg : am_H, am_fr [24] zh zg → zHd (zg.1 24) zC 16 → zQ (some (.int (iN (zSi zC 16)))) zg) : ∀ (z_n : Nat) (zg : am_H) (zi : Int) (q_fr : am_fr [24] zh zg) (q_i : 0 ≤ zi ∧ zi ≤ N) (q_w : ∀ x : Int, 0 ≤ x → x < 16 → zg.1 24 x.toNat = iN (if x < zi then zC x else B x)), N + 1 - zi < (z_n : Int) → am_wp zd am_m_Lp_handAs 52 [(0, .ref 0), (1, .int (iN (1))), (2, .ref 3), (3, .int (iN (zi)))] [] (78, 76) zg (78, 76) zQ := by
  obtain ⟨zd, rfl⟩ : ∃ y_e, zd = y_e + 4 := ⟨zd - 4, by omega⟩
  intro z_n
  induction z_n with
  | zero => intro zg zi q_fr q_i q_w q_m; omega
  | succ z_n z_ih =>
    intro zg zi q_fr q_i q_w q_m
    have q_N := q_g.1
    refine wp_run (k := 3) (pc1 := 57) (l1 := [(0, .ref 0), (1, .int (iN (1))), (2, .ref 3), (3, .int (iN (zi)))]) (st1 := [.ref 1, .int (iN (zi))]) (kr1 := (78, 76)) (h1 := zg) rfl ?_
    refine wp_call (md1 := am_m_Numbers_size) (As := [.ref 1]) (rest := [.int (iN (zi))]) (kr1 := (78, 76)) rfl (jt_size_1 _ (by omega) (zNm_f q_fr q_nm (by decide) (by decide)) q_g) ?_
    rintro _ _ ⟨rfl, rfl⟩
    refine wp_ge (a := zi) (b := N) rfl (by omega) (by omega) (fun b_60 => ?_) (fun b_60 => ?_)
    · have q_hd : zHd (zg.1 24) zC 16 := by
        intro x y1 y2
        rw [q_w x y1 y2]
        by_cases y4 : x < zi
        · rw [if_pos y4]
        · rw [if_neg y4, q_kb.2 x (by omega), q_kc.2 x (by omega)]
      refine wp_run (k := 2) (pc1 := 110) (l1 := [(0, .ref 0), (1, .int (iN (1))), (2, .ref 3), (3, .int (iN (zi)))]) (st1 := [.ref 23]) (kr1 := (78, 76)) (h1 := zg) rfl ?_
      refine wp_call (md1 := am_m_ByHand_pieces) (As := [.ref 23]) (rest := []) (kr1 := (78, 76)) rfl (jt_hpieces (B := zC) _ (by omega) q_hd) ?_
      rintro _ _ ⟨rfl, rfl⟩
      refine wp_ret (rv := some (.int (iN (zSi zC 16)))) rfl ?_
      exact zk2 zg q_fr q_hd
    · refine wp_run (k := 4) (pc1 := 69) (l1 := [(0, .ref 0), (1, .int (iN (1))), (2, .ref 3), (3, .int (iN (zi)))]) (st1 := [.int (iN (1)), .int (iN (zi)), .ref 23]) (kr1 := (78, 76)) (h1 := zg) rfl ?_
      refine wp_ne0 (a := 1) rfl (by omega) (fun b_69 => ?_) (fun b_69 => ?_)
      · refine wp_run (k := 2) (pc1 := 82) (l1 := [(0, .ref 0), (1, .int (iN (1))), (2, .ref 3), (3, .int (iN (zi)))]) (st1 := [.int (iN (1)), .int (iN (1)), .int (iN (zi)), .ref 23]) (kr1 := (78, 76)) (h1 := zg) rfl ?_
        refine wp_ne (a := 1) (b := 1) rfl (by omega) (by omega) (fun b_82 => ?_) (fun b_82 => ?_)
        · exact absurd b_82 (by decide)
        · refine wp_run (k := 3) (pc1 := 90) (l1 := [(0, .ref 0), (1, .int (iN (1))), (2, .ref 3), (3, .int (iN (zi)))]) (st1 := [.int (iN (zi)), .ref 18, .int (iN (zi)), .ref 23]) (kr1 := (78, 76)) (h1 := zg) rfl ?_
          refine wp_call (md1 := am_m_Bounded_made) (As := [.ref 18, .int (iN (zi))]) (rest := [.int (iN (zi)), .ref 23]) (kr1 := (78, 76)) rfl (jg_Bounded_made_18 _ (by omega) (zp := zi) (by omega) ((congrFun (q_fr.2 21 (by decide)) _).trans (q_C zi (by omega) (by omega)))) ?_
          rintro _ _ ⟨rfl, rfl⟩
          refine wp_run (k := 1) (pc1 := 97) (l1 := [(0, .ref 0), (1, .int (iN (1))), (2, .ref 3), (3, .int (iN (zi)))]) (st1 := [.int (iN (zC zi)), .int (iN (zi)), .ref 23]) (kr1 := (78, 76)) (h1 := zg) rfl ?_
          refine wp_call (md1 := am_m_ByHand_make) (As := [.ref 23, .int (iN (zi)), .int (iN (zC zi))]) (rest := []) (kr1 := (78, 76)) rfl (jt_hmake (zp := zi) (zv := zC zi) _ (by omega) (by omega)) ?_
          rintro _ _ ⟨rfl, rfl⟩
          refine wp_run (k := 2) (pc1 := 52) (l1 := [(0, .ref 0), (1, .int (iN (1))), (2, .ref 3), (3, .int (iN ((zi) + 1)))]) (st1 := []) (kr1 := (78, 76)) (h1 := am_row zg 24 (zUp (zg.1 24) (zi : Int).toNat (iN (zC zi)))) (Eq.trans (b := (some (52, [(0, .ref 0), (1, .int (iN (1))), (2, .ref 3), (3, .int ((iN (zi)) + iN (1)))], [], (78, 76), am_row zg 24 (zUp (zg.1 24) (zi : Int).toNat (iN (zC zi)))) : Option am_C)) rfl (by simp only [Int32.ofInt_add, Int32.ofInt_sub, Int32.ofInt_mul, Int32.ofInt_neg])) ?_
          refine z_ih (am_row zg 24 (zUp (zg.1 24) (zi : Int).toNat (iN (zC zi)))) (zi + 1) (am_fr_r q_fr (by decide) _) (by omega) (fun x y1 y2 => ?_) (by omega)
          rw [am_row_s]
          by_cases y3 : x = zi
          · rw [y3, zUp_s, if_pos (by omega)]
          · rw [zUp_n _ _ _ (by omega), q_w x y1 y2]
            by_cases y4 : x < zi
            · rw [if_pos y4, if_pos (by omega)]
            · rw [if_neg y4, if_neg (by omega)]
      · exact absurd b_69 (by decide)
set_option maxRecDepth 20000 in
set_option maxHeartbeats 4000000 in
theorem jl_handAs2 (zd : Nat) (q_d : 4 ≤ zd) {zh : am_H} {N : Int} {G : Int → Int → Int} {S T : Int} {zC B : Int → Int} (q_nm : zNm (zh.1 1) (zh.1 2) N G S T) (q_g : zGk N G S T) (q_C : ∀ x : Int, 0 ≤ x → x < N → zC x = 0) (q_kb : zHk N B) (q_kc : zHk N zC) {zQ : Option Value → am_H → Prop} (zk2 : ∀ zg : am_H, am_fr [24] zh zg → zHd (zg.1 24) zC 16 → zQ (some (.int (iN (zSi zC 16)))) zg) : ∀ (z_n : Nat) (zg : am_H) (zi : Int) (q_fr : am_fr [24] zh zg) (q_i : 0 ≤ zi ∧ zi ≤ N) (q_w : ∀ x : Int, 0 ≤ x → x < 16 → zg.1 24 x.toNat = iN (if x < zi then zC x else B x)), N + 1 - zi < (z_n : Int) → am_wp zd am_m_Lp_handAs 52 [(0, .ref 0), (1, .int (iN (2))), (2, .ref 3), (3, .int (iN (zi)))] [] (78, 76) zg (78, 76) zQ := by
  obtain ⟨zd, rfl⟩ : ∃ y_e, zd = y_e + 4 := ⟨zd - 4, by omega⟩
  intro z_n
  induction z_n with
  | zero => intro zg zi q_fr q_i q_w q_m; omega
  | succ z_n z_ih =>
    intro zg zi q_fr q_i q_w q_m
    have q_N := q_g.1
    refine wp_run (k := 3) (pc1 := 57) (l1 := [(0, .ref 0), (1, .int (iN (2))), (2, .ref 3), (3, .int (iN (zi)))]) (st1 := [.ref 1, .int (iN (zi))]) (kr1 := (78, 76)) (h1 := zg) rfl ?_
    refine wp_call (md1 := am_m_Numbers_size) (As := [.ref 1]) (rest := [.int (iN (zi))]) (kr1 := (78, 76)) rfl (jt_size_1 _ (by omega) (zNm_f q_fr q_nm (by decide) (by decide)) q_g) ?_
    rintro _ _ ⟨rfl, rfl⟩
    refine wp_ge (a := zi) (b := N) rfl (by omega) (by omega) (fun b_60 => ?_) (fun b_60 => ?_)
    · have q_hd : zHd (zg.1 24) zC 16 := by
        intro x y1 y2
        rw [q_w x y1 y2]
        by_cases y4 : x < zi
        · rw [if_pos y4]
        · rw [if_neg y4, q_kb.2 x (by omega), q_kc.2 x (by omega)]
      refine wp_run (k := 2) (pc1 := 110) (l1 := [(0, .ref 0), (1, .int (iN (2))), (2, .ref 3), (3, .int (iN (zi)))]) (st1 := [.ref 23]) (kr1 := (78, 76)) (h1 := zg) rfl ?_
      refine wp_call (md1 := am_m_ByHand_pieces) (As := [.ref 23]) (rest := []) (kr1 := (78, 76)) rfl (jt_hpieces (B := zC) _ (by omega) q_hd) ?_
      rintro _ _ ⟨rfl, rfl⟩
      refine wp_ret (rv := some (.int (iN (zSi zC 16)))) rfl ?_
      exact zk2 zg q_fr q_hd
    · refine wp_run (k := 4) (pc1 := 69) (l1 := [(0, .ref 0), (1, .int (iN (2))), (2, .ref 3), (3, .int (iN (zi)))]) (st1 := [.int (iN (2)), .int (iN (zi)), .ref 23]) (kr1 := (78, 76)) (h1 := zg) rfl ?_
      refine wp_ne0 (a := 2) rfl (by omega) (fun b_69 => ?_) (fun b_69 => ?_)
      · refine wp_run (k := 2) (pc1 := 82) (l1 := [(0, .ref 0), (1, .int (iN (2))), (2, .ref 3), (3, .int (iN (zi)))]) (st1 := [.int (iN (1)), .int (iN (2)), .int (iN (zi)), .ref 23]) (kr1 := (78, 76)) (h1 := zg) rfl ?_
        refine wp_ne (a := 2) (b := 1) rfl (by omega) (by omega) (fun b_82 => ?_) (fun b_82 => ?_)
        · refine wp_run (k := 1) (pc1 := 97) (l1 := [(0, .ref 0), (1, .int (iN (2))), (2, .ref 3), (3, .int (iN (zi)))]) (st1 := [.int (iN (0)), .int (iN (zi)), .ref 23]) (kr1 := (78, 76)) (h1 := zg) rfl ?_
          refine Eq.mpr (congrArg (fun y_v => am_wp _ _ _ _ [.int (iN y_v), .int (iN zi), .ref 23] _ _ _ _) (q_C zi (by omega) (by omega)).symm) ?_
          refine wp_call (md1 := am_m_ByHand_make) (As := [.ref 23, .int (iN (zi)), .int (iN (zC zi))]) (rest := []) (kr1 := (78, 76)) rfl (jt_hmake (zp := zi) (zv := zC zi) _ (by omega) (by omega)) ?_
          rintro _ _ ⟨rfl, rfl⟩
          refine wp_run (k := 2) (pc1 := 52) (l1 := [(0, .ref 0), (1, .int (iN (2))), (2, .ref 3), (3, .int (iN ((zi) + 1)))]) (st1 := []) (kr1 := (78, 76)) (h1 := am_row zg 24 (zUp (zg.1 24) (zi : Int).toNat (iN (zC zi)))) (Eq.trans (b := (some (52, [(0, .ref 0), (1, .int (iN (2))), (2, .ref 3), (3, .int ((iN (zi)) + iN (1)))], [], (78, 76), am_row zg 24 (zUp (zg.1 24) (zi : Int).toNat (iN (zC zi)))) : Option am_C)) rfl (by simp only [Int32.ofInt_add, Int32.ofInt_sub, Int32.ofInt_mul, Int32.ofInt_neg])) ?_
          refine z_ih (am_row zg 24 (zUp (zg.1 24) (zi : Int).toNat (iN (zC zi)))) (zi + 1) (am_fr_r q_fr (by decide) _) (by omega) (fun x y1 y2 => ?_) (by omega)
          rw [am_row_s]
          by_cases y3 : x = zi
          · rw [y3, zUp_s, if_pos (by omega)]
          · rw [zUp_n _ _ _ (by omega), q_w x y1 y2]
            by_cases y4 : x < zi
            · rw [if_pos y4, if_pos (by omega)]
            · rw [if_neg y4, if_neg (by omega)]
        · exact absurd b_82 (by decide)
      · exact absurd b_69 (by decide)
set_option maxRecDepth 20000 in
set_option maxHeartbeats 4000000 in
theorem jL_handAs0 (zd : Nat) (q_d : 6 ≤ zd) {zh : am_H} {N : Int} {G : Int → Int → Int} {S T zs zk : Int} {B : Int → Int} (q_nm : zNm (zh.1 1) (zh.1 2) N G S T) (q_g : zGk N G S T) (q_a0 : zh.1 8 0 = iN 0) (q_s : zh.1 1 2 = iN zs) (q_k : zh.1 3 1 = iN zk) (q_r : 0 ≤ zs ∧ zs < 2147483648 ∧ 0 ≤ zk ∧ zk < 2147483648) (q_old : zk = zs → zPlan_3 zh N G T) (q_hd : zHd (zh.1 24) B 16) (q_hk : zHk N B) : am_wp zd am_m_Lp_handAs 0 [(0, .ref 0), (1, .int (iN (0)))] [] (78, 76) zh (78, 76) (fun rv h' => rv = some (.int (iN (zSi (zMB G T N) N))) ∧ am_fr [3, 5, 6, 7, 8, 9, 10, 11, 12, 13, 14, 15, 16, 17, 24] zh h' ∧ h'.1 3 1 = iN zs ∧ zPlan_3 h' N G T ∧ zHd (h'.1 24) (zMB G T N) 16) := by
  obtain ⟨zd, rfl⟩ : ∃ y_e, zd = y_e + 6 := ⟨zd - 6, by omega⟩
  have q_N := q_g.1
  refine wp_run (k := 1) (pc1 := 1) (l1 := [(0, .ref 0), (1, .int (iN (0)))]) (st1 := [.int (iN (0))]) (kr1 := (78, 76)) (h1 := zh) rfl ?_
  refine wp_lt0 (a := 0) rfl (by omega) (fun b_1 => ?_) (fun b_1 => ?_)
  · exact absurd b_1 (by decide)
  · refine wp_run (k := 2) (pc1 := 6) (l1 := [(0, .ref 0), (1, .int (iN (0)))]) (st1 := [.int (iN (2)), .int (iN (0))]) (kr1 := (78, 76)) (h1 := zh) rfl ?_
    refine wp_le (a := 0) (b := 2) rfl (by omega) (by omega) (fun b_6 => ?_) (fun b_6 => ?_)
    · refine wp_run (k := 2) (pc1 := 13) (l1 := [(0, .ref 0), (1, .int (iN (0)))]) (st1 := [.int (iN (1)), .int (iN (0))]) (kr1 := (78, 76)) (h1 := zh) rfl ?_
      refine wp_ne (a := 0) (b := 1) rfl (by omega) (by omega) (fun b_13 => ?_) (fun b_13 => ?_)
      · refine wp_run (k := 1) (pc1 := 46) (l1 := [(0, .ref 0), (1, .int (iN (0)))]) (st1 := [.ref 0]) (kr1 := (78, 76)) (h1 := zh) rfl ?_
        refine wp_call (md1 := am_m_Lp_planNow) (As := [.ref 0]) (rest := []) (kr1 := (78, 76)) rfl (jt_planNow _ (by omega) q_nm q_g q_a0 q_s q_k q_r q_old) ?_
        rintro _ zg1 ⟨rfl, q_f1, q_k1, q_pl1⟩
        have q_tk := zTook_k q_pl1.2.1
        have q_nm1 := zNm_f q_f1 q_nm (by decide) (by decide)
        refine wp_run (k := 3) (pc1 := 52) (l1 := [(0, .ref 0), (1, .int (iN (0))), (2, .ref 3), (3, .int (iN (0)))]) (st1 := []) (kr1 := (78, 76)) (h1 := zg1) rfl ?_
        refine jl_handAs0 (zh := zg1) (zC := zMB G T N) (B := B) _ (by omega) q_nm1 q_g (fun x y1 y2 => q_tk.2.2.2.1 x y1 (by omega)) q_hk (zMB_hk q_g) (fun zg y1 y2 => ⟨?_, am_fr_t (am_fr_m q_f1 (fun c y => by simp only [List.mem_cons, List.not_mem_nil, or_false] at y ⊢; omega)) (am_fr_m y1 (fun c y => by simp only [List.mem_cons, List.not_mem_nil, or_false] at y ⊢; omega)), (congrFun (y1.2 3 (by decide)) 1).trans q_k1, zPlan_f_3 y1 (by decide) q_pl1, y2⟩) 18 zg1 0 (am_fr_0 _ _) (by omega) (fun x y1 y2 => by rw [if_neg (by omega), q_f1.2 24 (by decide)]; exact q_hd x y1 y2) (by omega)
        rw [zSi_e (zMB_hk q_g) (by omega) (M := 16) (by omega)]
      · exact absurd b_13 (by decide)
    · exact absurd b_6 (by decide)
set_option maxRecDepth 20000 in
set_option maxHeartbeats 4000000 in
theorem jL_handAs2 (zd : Nat) (q_d : 6 ≤ zd) {zh : am_H} {N : Int} {G : Int → Int → Int} {S T zs zk : Int} {B : Int → Int} (q_nm : zNm (zh.1 1) (zh.1 2) N G S T) (q_g : zGk N G S T) (q_a0 : zh.1 8 0 = iN 0) (q_s : zh.1 1 2 = iN zs) (q_k : zh.1 3 1 = iN zk) (q_r : 0 ≤ zs ∧ zs < 2147483648 ∧ 0 ≤ zk ∧ zk < 2147483648) (q_old : zk = zs → zPlan_3 zh N G T) (q_hd : zHd (zh.1 24) B 16) (q_hk : zHk N B) : am_wp zd am_m_Lp_handAs 0 [(0, .ref 0), (1, .int (iN (2)))] [] (78, 76) zh (78, 76) (fun rv h' => rv = some (.int (iN (zSi ((fun _ => 0)) N))) ∧ am_fr [3, 5, 6, 7, 8, 9, 10, 11, 12, 13, 14, 15, 16, 17, 24] zh h' ∧ h'.1 3 1 = iN zs ∧ zPlan_3 h' N G T ∧ zHd (h'.1 24) ((fun _ => 0)) 16) := by
  obtain ⟨zd, rfl⟩ : ∃ y_e, zd = y_e + 6 := ⟨zd - 6, by omega⟩
  have q_N := q_g.1
  refine wp_run (k := 1) (pc1 := 1) (l1 := [(0, .ref 0), (1, .int (iN (2)))]) (st1 := [.int (iN (2))]) (kr1 := (78, 76)) (h1 := zh) rfl ?_
  refine wp_lt0 (a := 2) rfl (by omega) (fun b_1 => ?_) (fun b_1 => ?_)
  · exact absurd b_1 (by decide)
  · refine wp_run (k := 2) (pc1 := 6) (l1 := [(0, .ref 0), (1, .int (iN (2)))]) (st1 := [.int (iN (2)), .int (iN (2))]) (kr1 := (78, 76)) (h1 := zh) rfl ?_
    refine wp_le (a := 2) (b := 2) rfl (by omega) (by omega) (fun b_6 => ?_) (fun b_6 => ?_)
    · refine wp_run (k := 2) (pc1 := 13) (l1 := [(0, .ref 0), (1, .int (iN (2)))]) (st1 := [.int (iN (1)), .int (iN (2))]) (kr1 := (78, 76)) (h1 := zh) rfl ?_
      refine wp_ne (a := 2) (b := 1) rfl (by omega) (by omega) (fun b_13 => ?_) (fun b_13 => ?_)
      · refine wp_run (k := 1) (pc1 := 46) (l1 := [(0, .ref 0), (1, .int (iN (2)))]) (st1 := [.ref 0]) (kr1 := (78, 76)) (h1 := zh) rfl ?_
        refine wp_call (md1 := am_m_Lp_planNow) (As := [.ref 0]) (rest := []) (kr1 := (78, 76)) rfl (jt_planNow _ (by omega) q_nm q_g q_a0 q_s q_k q_r q_old) ?_
        rintro _ zg1 ⟨rfl, q_f1, q_k1, q_pl1⟩
        have q_tk := zTook_k q_pl1.2.1
        have q_nm1 := zNm_f q_f1 q_nm (by decide) (by decide)
        refine wp_run (k := 3) (pc1 := 52) (l1 := [(0, .ref 0), (1, .int (iN (2))), (2, .ref 3), (3, .int (iN (0)))]) (st1 := []) (kr1 := (78, 76)) (h1 := zg1) rfl ?_
        refine jl_handAs2 (zh := zg1) (zC := (fun _ => 0)) (B := B) _ (by omega) q_nm1 q_g (fun _ _ _ => rfl) q_hk (⟨fun _ _ _ => ⟨Int.le_refl _, show (0 : Int) ≤ 1584 by decide⟩, fun _ _ => rfl⟩) (fun zg y1 y2 => ⟨?_, am_fr_t (am_fr_m q_f1 (fun c y => by simp only [List.mem_cons, List.not_mem_nil, or_false] at y ⊢; omega)) (am_fr_m y1 (fun c y => by simp only [List.mem_cons, List.not_mem_nil, or_false] at y ⊢; omega)), (congrFun (y1.2 3 (by decide)) 1).trans q_k1, zPlan_f_3 y1 (by decide) q_pl1, y2⟩) 18 zg1 0 (am_fr_0 _ _) (by omega) (fun x y1 y2 => by rw [if_neg (by omega), q_f1.2 24 (by decide)]; exact q_hd x y1 y2) (by omega)
        rw [zSi_e ((⟨fun _ _ _ => ⟨Int.le_refl _, show (0 : Int) ≤ 1584 by decide⟩, fun _ _ => rfl⟩ : zHk N (fun _ => 0))) (by omega) (M := 16) (by omega)]
      · exact absurd b_13 (by decide)
    · exact absurd b_6 (by decide)
set_option maxRecDepth 20000 in
set_option maxHeartbeats 4000000 in
theorem jL_handAs1 (zd : Nat) (q_d : 6 ≤ zd) {zh : am_H} {N : Int} {G : Int → Int → Int} {S T zs zk zj : Int} {B : Int → Int} (q_nm : zNm (zh.1 1) (zh.1 2) N G S T) (q_g : zGk N G S T) (q_a0 : zh.1 8 0 = iN 0) (q_s : zh.1 1 2 = iN zs) (q_k : zh.1 3 1 = iN zk) (q_r : 0 ≤ zs ∧ zs < 2147483648 ∧ 0 ≤ zk ∧ zk < 2147483648) (q_old : zk = zs → zPlan_3 zh N G T) (q_hd : zHd (zh.1 24) B 16) (q_hk : zHk N B) (q_kb : zh.1 18 0 = iN zj) (q_rb : 0 ≤ zs ∧ zs < 2147483648 ∧ 0 ≤ zj ∧ zj < 2147483648) (q_ob : zj = zs → zBnd zh N G S T) : am_wp zd am_m_Lp_handAs 0 [(0, .ref 0), (1, .int (iN (1)))] [] (78, 76) zh (78, 76) (fun rv h' => (zBst N G S T = 0 → rv = some (.int (iN (zSi (zBm N G S T (zD G 0 (N - 1))) N))) ∧ am_fr [3, 5, 6, 7, 8, 9, 10, 11, 12, 13, 14, 15, 16, 17, 18, 19, 20, 21, 24] zh h' ∧ h'.1 3 1 = iN zs ∧ zPlan_3 h' N G T ∧ h'.1 18 0 = iN zs ∧ zBnd h' N G S T ∧ zHd (h'.1 24) (zBm N G S T (zD G 0 (N - 1))) 16) ∧ (¬ zBst N G S T = 0 → rv = some (.int (iN (zBst N G S T))) ∧ am_fr [18, 19, 20, 21] zh h' ∧ h'.1 18 0 = iN zs ∧ zBnd h' N G S T)) := by
  obtain ⟨zd, rfl⟩ : ∃ y_e, zd = y_e + 6 := ⟨zd - 6, by omega⟩
  have q_N := q_g.1
  refine wp_run (k := 1) (pc1 := 1) (l1 := [(0, .ref 0), (1, .int (iN (1)))]) (st1 := [.int (iN (1))]) (kr1 := (78, 76)) (h1 := zh) rfl ?_
  refine wp_lt0 (a := 1) rfl (by omega) (fun b_1 => ?_) (fun b_1 => ?_)
  · exact absurd b_1 (by decide)
  · refine wp_run (k := 2) (pc1 := 6) (l1 := [(0, .ref 0), (1, .int (iN (1)))]) (st1 := [.int (iN (2)), .int (iN (1))]) (kr1 := (78, 76)) (h1 := zh) rfl ?_
    refine wp_le (a := 1) (b := 2) rfl (by omega) (by omega) (fun b_6 => ?_) (fun b_6 => ?_)
    · refine wp_run (k := 2) (pc1 := 13) (l1 := [(0, .ref 0), (1, .int (iN (1)))]) (st1 := [.int (iN (1)), .int (iN (1))]) (kr1 := (78, 76)) (h1 := zh) rfl ?_
      refine wp_ne (a := 1) (b := 1) rfl (by omega) (by omega) (fun b_13 => ?_) (fun b_13 => ?_)
      · exact absurd b_13 (by decide)
      · refine wp_run (k := 4) (pc1 := 24) (l1 := [(0, .ref 0), (1, .int (iN (1)))]) (st1 := [.ref 1, .ref 18]) (kr1 := (78, 76)) (h1 := zh) rfl ?_
        refine wp_call (md1 := am_m_Bounded_refresh) (As := [.ref 18, .ref 1]) (rest := []) (kr1 := (78, 76)) rfl (jt_brefresh (zk := zj) _ (by omega) q_nm q_g q_s q_kb q_rb q_ob) ?_
        rintro _ zg1 ⟨rfl, q_f1, q_k1, q_bd1⟩
        have y_d := zD_rg q_g (a := 0) (b := N - 1) (by omega) (by omega) (by omega)
        have y_st : zBst N G S T = 0 ∨ zBst N G S T = -2 ∨ zBst N G S T = -7 := by unfold zBst; (repeat' split) <;> omega
        refine wp_run (k := 2) (pc1 := 31) (l1 := [(0, .ref 0), (1, .int (iN (1)))]) (st1 := [.ref 18]) (kr1 := (78, 76)) (h1 := zg1) rfl ?_
        refine wp_call (md1 := am_m_Bounded_state) (As := [.ref 18]) (rest := []) (kr1 := (78, 76)) rfl (jg_Bounded_state_18 _ (by omega) q_bd1.1) ?_
        rintro _ _ ⟨rfl, rfl⟩
        refine wp_eq0 (a := zBst N G S T) rfl (by omega) (fun b_34 => ?_) (fun b_34 => ?_)
        · refine wp_run (k := 1) (pc1 := 46) (l1 := [(0, .ref 0), (1, .int (iN (1)))]) (st1 := [.ref 0]) (kr1 := (78, 76)) (h1 := zg1) rfl ?_
          refine wp_call (md1 := am_m_Lp_planNow) (As := [.ref 0]) (rest := []) (kr1 := (78, 76)) rfl (jt_planNow (zs := zs) (zk := zk) _ (by omega) (zNm_f q_f1 q_nm (by decide) (by decide)) q_g ((congrFun (q_f1.2 8 (by decide)) 0).trans q_a0) ((congrFun (q_f1.2 1 (by decide)) 2).trans q_s) ((congrFun (q_f1.2 3 (by decide)) 1).trans q_k) q_r (fun y => zPlan_f_3 q_f1 (by decide) (q_old y))) ?_
          rintro _ zg2 ⟨rfl, q_f2, q_k2, q_pl2⟩
          have q_nm2 := zNm_f q_f2 (zNm_f q_f1 q_nm (by decide) (by decide)) (by decide) (by decide)
          have q_bd2 := zBnd_f q_f2 (by decide) (by decide) (by decide) q_bd1
          refine wp_run (k := 3) (pc1 := 52) (l1 := [(0, .ref 0), (1, .int (iN (1))), (2, .ref 3), (3, .int (iN (0)))]) (st1 := []) (kr1 := (78, 76)) (h1 := zg2) rfl ?_
          have y_kc : zHk N (zBm N G S T (zD G 0 (N - 1))) := zBm_hk q_g ⟨y_d.1, (zBst_0 (by omega)).1⟩ (zBst_0 (by omega)).2
          refine jl_handAs1 (zh := zg2) (zC := zBm N G S T (zD G 0 (N - 1))) (B := B) _ (by omega) q_nm2 q_g ((q_bd2.2 (by omega)).2) q_hk y_kc (fun zg y1 y2 => ⟨fun _ => ⟨?_, am_fr_t (am_fr_m q_f1 (fun c y => by simp only [List.mem_cons, List.not_mem_nil, or_false] at y ⊢; omega)) (am_fr_t (am_fr_m q_f2 (fun c y => by simp only [List.mem_cons, List.not_mem_nil, or_false] at y ⊢; omega)) (am_fr_m y1 (fun c y => by simp only [List.mem_cons, List.not_mem_nil, or_false] at y ⊢; omega))), (congrFun (y1.2 3 (by decide)) 1).trans q_k2, zPlan_f_3 y1 (by decide) q_pl2, (congrFun (y1.2 18 (by decide)) 0).trans ((congrFun (q_f2.2 18 (by decide)) 0).trans q_k1), zBnd_f y1 (by decide) (by decide) (by decide) q_bd2, y2⟩, fun y => absurd (by omega) y⟩) 18 zg2 0 (am_fr_0 _ _) (by omega) (fun x y1 y2 => by rw [if_neg (by omega), q_f2.2 24 (by decide), q_f1.2 24 (by decide)]; exact q_hd x y1 y2) (by omega)
          rw [zSi_e y_kc (by omega) (M := 16) (by omega)]
        · refine wp_run (k := 2) (pc1 := 41) (l1 := [(0, .ref 0), (1, .int (iN (1)))]) (st1 := [.ref 18]) (kr1 := (78, 76)) (h1 := zg1) rfl ?_
          refine wp_call (md1 := am_m_Bounded_state) (As := [.ref 18]) (rest := []) (kr1 := (78, 76)) rfl (jg_Bounded_state_18 _ (by omega) q_bd1.1) ?_
          rintro _ _ ⟨rfl, rfl⟩
          refine wp_ret (rv := some (.int (iN (zBst N G S T)))) rfl ?_
          exact ⟨fun y => absurd y (by omega), fun _ => ⟨rfl, q_f1, q_k1, q_bd1⟩⟩
    · exact absurd b_6 (by decide)
set_option maxRecDepth 20000 in
set_option maxHeartbeats 4000000 in
theorem jL_handAsx (zd : Nat) (q_d : 4 ≤ zd) {zh : am_H} {zw : Int} (q_zwr : -2147483648 ≤ zw ∧ zw < 2147483648) (q_w : zw < 0 ∨ 2 < zw) : am_wp zd am_m_Lp_handAs 0 [(0, .ref 0), (1, .int (iN (zw)))] [] (78, 76) zh (78, 76) (fun rv h' => rv = some (.int (iN (-1))) ∧ zh = h') := by
  obtain ⟨zd, rfl⟩ : ∃ y_e, zd = y_e + 4 := ⟨zd - 4, by omega⟩
  refine wp_run (k := 1) (pc1 := 1) (l1 := [(0, .ref 0), (1, .int (iN (zw)))]) (st1 := [.int (iN (zw))]) (kr1 := (78, 76)) (h1 := zh) rfl ?_
  refine wp_lt0 (a := zw) rfl (by omega) (fun b_1 => ?_) (fun b_1 => ?_)
  · refine wp_run (k := 1) (pc1 := 10) (l1 := [(0, .ref 0), (1, .int (iN (zw)))]) (st1 := [.int (iN (-1))]) (kr1 := (78, 76)) (h1 := zh) rfl ?_
    refine wp_ret (rv := some (.int (iN (-1)))) rfl ?_
    exact ⟨rfl, rfl⟩
  · refine wp_run (k := 2) (pc1 := 6) (l1 := [(0, .ref 0), (1, .int (iN (zw)))]) (st1 := [.int (iN (2)), .int (iN (zw))]) (kr1 := (78, 76)) (h1 := zh) rfl ?_
    refine wp_le (a := zw) (b := 2) rfl (by omega) (by omega) (fun b_6 => ?_) (fun b_6 => ?_)
    · exact absurd b_6 (by omega)
    · refine wp_run (k := 1) (pc1 := 10) (l1 := [(0, .ref 0), (1, .int (iN (zw)))]) (st1 := [.int (iN (-1))]) (kr1 := (78, 76)) (h1 := zh) rfl ?_
      refine wp_ret (rv := some (.int (iN (-1)))) rfl ?_
      exact ⟨rfl, rfl⟩
