/-! THE CLASS's methods: periods, changes undone, the image, a text, by hand as planned -/
set_option maxRecDepth 20000 in
set_option maxHeartbeats 4000000 in
theorem jL_periods (zd : Nat) (q_d : 6 ≤ zd) {zh : am_H} {N : Int} {G : Int → Int → Int} {S T : Int} {B : Int → Int} {zs zn : Int} (q_nm : zNm (zh.1 1) (zh.1 2) N G S T) (q_g : zGk N G S T) (q_s : zh.1 1 2 = iN zs) (q_hd : zHd (zh.1 24) B 16) (q_znr : -2147483648 ≤ zn ∧ zn < 2147483648) : am_wp zd am_m_Lp_periods 0 [(0, .ref 0), (1, .int (iN (zn)))] [] (78, 76) zh (78, 76) (fun rv h' => ((1 ≤ zn ∧ zn ≤ 16 ∧ ¬ zn = N) → rv = some (.int (iN N)) ∧ am_fr [1, 2, 24, 25] zh h' ∧ zNm (h'.1 1) (h'.1 2) zn (zGr G N) S T ∧ h'.1 1 2 = iN (zs + 1) ∧ zHd (h'.1 24) (fun p => if p < min N zn then B p else 0) 16 ∧ h'.1 25 1 = iN 0 ∧ h'.1 25 2 = iN 0) ∧ (¬ (1 ≤ zn ∧ zn ≤ 16 ∧ ¬ zn = N) → rv = some (.int (iN (if zn = N then N else -1))) ∧ zh = h')) := by
  obtain ⟨zd, rfl⟩ : ∃ y_e, zd = y_e + 6 := ⟨zd - 6, by omega⟩
  have q_N := q_g.1
  refine wp_run (k := 2) (pc1 := 2) (l1 := [(0, .ref 0), (1, .int (iN (zn)))]) (st1 := [.int (iN (1)), .int (iN (zn))]) (kr1 := (78, 76)) (h1 := zh) rfl ?_
  refine wp_lt (a := zn) (b := 1) rfl (by omega) (by omega) (fun b_2 => ?_) (fun b_2 => ?_)
  · refine wp_run (k := 1) (pc1 := 12) (l1 := [(0, .ref 0), (1, .int (iN (zn)))]) (st1 := [.int (iN (-1))]) (kr1 := (78, 76)) (h1 := zh) rfl ?_
    refine wp_ret (rv := some (.int (iN (-1)))) rfl ?_
    exact ⟨fun y => by omega, fun _ => ⟨by rw [if_neg (by omega)], rfl⟩⟩
  · refine wp_run (k := 2) (pc1 := 8) (l1 := [(0, .ref 0), (1, .int (iN (zn)))]) (st1 := [.int (iN (16)), .int (iN (zn))]) (kr1 := (78, 76)) (h1 := zh) rfl ?_
    refine wp_le (a := zn) (b := 16) rfl (by omega) (by omega) (fun b_8 => ?_) (fun b_8 => ?_)
    · refine wp_run (k := 2) (pc1 := 17) (l1 := [(0, .ref 0), (1, .int (iN (zn)))]) (st1 := [.ref 1]) (kr1 := (78, 76)) (h1 := zh) rfl ?_
      refine wp_call (md1 := am_m_Numbers_size) (As := [.ref 1]) (rest := []) (kr1 := (78, 76)) rfl (jt_size_1 _ (by omega) q_nm q_g) ?_
      rintro _ _ ⟨rfl, rfl⟩
      refine wp_run (k := 3) (pc1 := 23) (l1 := [(0, .ref 0), (1, .int (iN (zn))), (2, .int (iN (N)))]) (st1 := [.int (iN (N)), .int (iN (zn))]) (kr1 := (78, 76)) (h1 := zh) rfl ?_
      refine wp_ne (a := zn) (b := N) rfl (by omega) (by omega) (fun b_23 => ?_) (fun b_23 => ?_)
      · refine wp_run (k := 3) (pc1 := 33) (l1 := [(0, .ref 0), (1, .int (iN (zn))), (2, .int (iN (N)))]) (st1 := [.int (iN (zn)), .ref 1]) (kr1 := (78, 76)) (h1 := zh) rfl ?_
        refine wp_call (md1 := am_m_Numbers_resize) (As := [.ref 1, .int (iN (zn))]) (rest := []) (kr1 := (78, 76)) rfl (jt_resize_1 (zn := zn) (zs := zs) _ (by omega) q_nm q_g (by omega) q_s) ?_
        rintro _ zg1 ⟨rfl, fo, fc, q_e1, q_n1, q_s1⟩
        have q_f1 : am_fr [1, 2] zh zg1 := by rw [← q_e1]; exact am_fr_r (am_fr_r (am_fr_0 _ _) (by decide) _) (by decide) _
        have q_n2 : zNm (zg1.1 1) (zg1.1 2) zn (zGr G N) S T := by rw [← q_e1, am_row_s, am_row_n _ _ _ (by decide), am_row_s]; exact q_n1
        have q_s2 : zg1.1 1 2 = iN (zs + 1) := by rw [← q_e1, am_row_s]; exact q_s1
        refine wp_run (k := 4) (pc1 := 42) (l1 := [(0, .ref 0), (1, .int (iN (zn))), (2, .int (iN (N)))]) (st1 := [.int (iN (zn)), .int (iN (N)), .ref 23]) (kr1 := (78, 76)) (h1 := zg1) rfl ?_
        refine wp_now (rest := [.int (if iN (zn) < iN (N) then iN (zn) else iN (N)), .ref 23]) rfl ?_
        rw [show (if iN (zn) < iN (N) then iN (zn) else iN (N)) = iN (min (N) (zn)) from iN_min (by omega) (by omega)]
        refine wp_call (md1 := am_m_ByHand_keepFirst) (As := [.ref 23, .int (iN (min (N) (zn)))]) (rest := []) (kr1 := (78, 76)) rfl (jt_hkeep (zn := min N zn) _ (by omega) (by rw [q_f1.2 24 (by decide)]; exact q_hd) (by omega)) ?_
        rintro _ _ ⟨rfl, zf, rfl, q_h2⟩
        refine wp_run (k := 2) (pc1 := 52) (l1 := [(0, .ref 0), (1, .int (iN (zn))), (2, .int (iN (N)))]) (st1 := [.ref 25]) (kr1 := (78, 76)) (h1 := (am_row zg1 24 zf)) rfl ?_
        refine wp_call (md1 := am_m_Changes_begin) (As := [.ref 25]) (rest := []) (kr1 := (78, 76)) rfl (jt_cbegin _ (by omega)) ?_
        rintro _ zg3 ⟨rfl, q_e3⟩
        refine wp_run (k := 1) (pc1 := 56) (l1 := [(0, .ref 0), (1, .int (iN (zn))), (2, .int (iN (N)))]) (st1 := [.int (iN (N))]) (kr1 := (78, 76)) (h1 := zg3) rfl ?_
        refine wp_ret (rv := some (.int (iN (N)))) rfl ?_
        refine ⟨fun _ => ⟨rfl, ?_⟩, fun y => by omega⟩
        rw [← q_e3]
        refine ⟨am_fr_r (am_fr_r (am_fr_m q_f1 (fun c y => by simp only [List.mem_cons, List.not_mem_nil, or_false] at y ⊢; omega)) (by decide) _) (by decide) _, ?_, ?_, ?_, ?_, ?_⟩
        · rw [am_row_n _ _ _ (show 1 ≠ 25 by decide), am_row_n _ _ _ (show 1 ≠ 24 by decide), am_row_n _ _ _ (show 2 ≠ 25 by decide), am_row_n _ _ _ (show 2 ≠ 24 by decide)]; exact q_n2
        · rw [am_row_n _ _ _ (show 1 ≠ 25 by decide), am_row_n _ _ _ (show 1 ≠ 24 by decide)]; exact q_s2
        · rw [am_row_n _ _ _ (show 24 ≠ 25 by decide), am_row_s]; exact q_h2
        · rw [am_row_s, zUp_n _ _ _ (by decide), zUp_s]
        · rw [am_row_s, zUp_s]
      · refine wp_run (k := 1) (pc1 := 27) (l1 := [(0, .ref 0), (1, .int (iN (zn))), (2, .int (iN (N)))]) (st1 := [.int (iN (N))]) (kr1 := (78, 76)) (h1 := zh) rfl ?_
        refine wp_ret (rv := some (.int (iN (N)))) rfl ?_
        exact ⟨fun y => by omega, fun _ => ⟨by rw [if_pos (by omega)], rfl⟩⟩
    · refine wp_run (k := 1) (pc1 := 12) (l1 := [(0, .ref 0), (1, .int (iN (zn)))]) (st1 := [.int (iN (-1))]) (kr1 := (78, 76)) (h1 := zh) rfl ?_
      refine wp_ret (rv := some (.int (iN (-1)))) rfl ?_
      exact ⟨fun y => by omega, fun _ => ⟨by rw [if_neg (by omega)], rfl⟩⟩
set_option maxRecDepth 20000 in
set_option maxHeartbeats 4000000 in
theorem jL_undo (zd : Nat) (q_d : 4 ≤ zd) {zh : am_H} {zu zs : Int} (q_u : zh.1 25 1 = iN zu) (q_ur : 0 ≤ zu ∧ zu ≤ 12) (q_s : zh.1 1 2 = iN zs) : am_wp zd am_m_Lp_undo 0 [(0, .ref 0)] [] (78, 76) zh (78, 76) (fun rv h' => (¬ zu = 0 → rv = some (.int (iN (zu - 1))) ∧ am_fr [1, 2, 25, 26] zh h' ∧ h'.1 1 2 = iN (zs + 1) ∧ h'.1 1 1 = zh.1 1 1 ∧ h'.1 25 1 = iN (zu - 1) ∧ h'.1 25 2 = zh.1 25 2 ∧ h'.1 26 = zCq (zh.1 26) (zh.1 2) (98 * zu).toNat 0 98 ∧ h'.1 2 = zCq (zh.1 2) (zCq (zh.1 26) (zh.1 2) (98 * zu).toNat 0 98) 0 (98 * (zu - 1)).toNat 98) ∧ (¬ ¬ zu = 0 → rv = some (.int (iN (-5))) ∧ zh = h')) := by
  obtain ⟨zd, rfl⟩ : ∃ y_e, zd = y_e + 4 := ⟨zd - 4, by omega⟩
  refine wp_run (k := 4) (pc1 := 8) (l1 := [(0, .ref 0)]) (st1 := [.ref 1, .ref 25]) (kr1 := (78, 76)) (h1 := zh) rfl ?_
  refine wp_call (md1 := am_m_Changes_goBack) (As := [.ref 25, .ref 1]) (rest := []) (kr1 := (78, 76)) rfl (jt_goBack _ (by omega) q_u q_ur q_s) ?_
  rintro _ zg1 ⟨rfl, q_x1⟩
  refine wp_eqb rfl (fun b_11 => ?_) (fun b_11 => ?_)
  · refine wp_run (k := 1) (pc1 := 26) (l1 := [(0, .ref 0)]) (st1 := [.int (iN (-5))]) (kr1 := (78, 76)) (h1 := zg1) rfl ?_
    refine wp_ret (rv := some (.int (iN (-5)))) rfl ?_
    rcases q_x1 with ⟨y1, y2⟩ | ⟨y1, y2⟩
    · exact ⟨fun y => absurd y1 y, fun _ => ⟨rfl, y2⟩⟩
    · omega
  · have y_h : am_fr [1, 2, 25, 26] zh zg1 ∧ zg1.1 1 2 = iN (zs + 1) ∧ zg1.1 1 1 = zh.1 1 1 ∧ zg1.1 25 1 = iN (zu - 1) ∧ zg1.1 25 2 = zh.1 25 2 ∧ zg1.1 26 = zCq (zh.1 26) (zh.1 2) (98 * zu).toNat 0 98 ∧ zg1.1 2 = zCq (zh.1 2) (zCq (zh.1 26) (zh.1 2) (98 * zu).toNat 0 98) 0 (98 * (zu - 1)).toNat 98 := by
      rcases q_x1 with ⟨y1, y2⟩ | ⟨y1, y2⟩
      · omega
      · rw [← y2]
        refine ⟨am_fr_r (am_fr_r (am_fr_r (am_fr_r (am_fr_0 _ _) (by decide) _) (by decide) _) (by decide) _) (by decide) _, ?_, ?_, ?_, ?_, ?_, ?_⟩
        · rw [am_row_s, zUp_s]
        · rw [am_row_s, zUp_n _ _ _ (by decide)]
        · rw [am_row_n _ _ _ (by decide), am_row_n _ _ _ (by decide), am_row_s, zUp_s]
        · rw [am_row_n _ _ _ (by decide), am_row_n _ _ _ (by decide), am_row_s, zUp_n _ _ _ (by decide)]
        · rw [am_row_n _ _ _ (by decide), am_row_n _ _ _ (by decide), am_row_n _ _ _ (by decide), am_row_s]
        · rw [am_row_n _ _ _ (by decide), am_row_s]
    refine wp_run (k := 2) (pc1 := 18) (l1 := [(0, .ref 0)]) (st1 := [.ref 25]) (kr1 := (78, 76)) (h1 := zg1) rfl ?_
    refine wp_call (md1 := am_m_Changes_behind) (As := [.ref 25]) (rest := []) (kr1 := (78, 76)) rfl (jt_cbehind _ (by omega) y_h.2.2.2.1) ?_
    rintro _ _ ⟨rfl, rfl⟩
    refine wp_run (k := 1) (pc1 := 26) (l1 := [(0, .ref 0)]) (st1 := [.int (iN (zu - 1))]) (kr1 := (78, 76)) (h1 := zg1) rfl ?_
    refine wp_ret (rv := some (.int (iN (zu - 1)))) rfl ?_
    exact ⟨fun _ => ⟨rfl, y_h⟩, fun y => absurd (by omega) y⟩
set_option maxRecDepth 20000 in
set_option maxHeartbeats 4000000 in
theorem jL_redo (zd : Nat) (q_d : 4 ≤ zd) {zh : am_H} {zu zv zs : Int} (q_u : zh.1 25 1 = iN zu) (q_v : zh.1 25 2 = iN zv) (q_uv : 0 ≤ zu ∧ zu ≤ zv ∧ zv ≤ 12) (q_s : zh.1 1 2 = iN zs) : am_wp zd am_m_Lp_redo 0 [(0, .ref 0)] [] (78, 76) zh (78, 76) (fun rv h' => (¬ zu = zv → rv = some (.int (iN (zv - (zu + 1)))) ∧ am_fr [1, 2, 25, 26] zh h' ∧ h'.1 1 2 = iN (zs + 1) ∧ h'.1 1 1 = zh.1 1 1 ∧ h'.1 25 1 = iN (zu + 1) ∧ h'.1 25 2 = zh.1 25 2 ∧ h'.1 26 = zh.1 26 ∧ h'.1 2 = zCq (zh.1 2) (zh.1 26) 0 (98 * (zu + 1)).toNat 98) ∧ (¬ ¬ zu = zv → rv = some (.int (iN (-5))) ∧ zh = h')) := by
  obtain ⟨zd, rfl⟩ : ∃ y_e, zd = y_e + 4 := ⟨zd - 4, by omega⟩
  refine wp_run (k := 4) (pc1 := 8) (l1 := [(0, .ref 0)]) (st1 := [.ref 1, .ref 25]) (kr1 := (78, 76)) (h1 := zh) rfl ?_
  refine wp_call (md1 := am_m_Changes_goOn) (As := [.ref 25, .ref 1]) (rest := []) (kr1 := (78, 76)) rfl (jt_goOn _ (by omega) q_u q_v q_uv q_s) ?_
  rintro _ zg1 ⟨rfl, q_x1⟩
  refine wp_eqb rfl (fun b_11 => ?_) (fun b_11 => ?_)
  · refine wp_run (k := 1) (pc1 := 26) (l1 := [(0, .ref 0)]) (st1 := [.int (iN (-5))]) (kr1 := (78, 76)) (h1 := zg1) rfl ?_
    refine wp_ret (rv := some (.int (iN (-5)))) rfl ?_
    rcases q_x1 with ⟨y1, y2⟩ | ⟨y1, y2⟩
    · exact ⟨fun y => absurd y1 y, fun _ => ⟨rfl, y2⟩⟩
    · omega
  · have y_h : am_fr [1, 2, 25, 26] zh zg1 ∧ zg1.1 1 2 = iN (zs + 1) ∧ zg1.1 1 1 = zh.1 1 1 ∧ zg1.1 25 1 = iN (zu + 1) ∧ zg1.1 25 2 = zh.1 25 2 ∧ zg1.1 26 = zh.1 26 ∧ zg1.1 2 = zCq (zh.1 2) (zh.1 26) 0 (98 * (zu + 1)).toNat 98 := by
      rcases q_x1 with ⟨y1, y2⟩ | ⟨y1, y2⟩
      · omega
      · rw [← y2]
        refine ⟨am_fr_r (am_fr_r (am_fr_r (am_fr_0 _ _) (by decide) _) (by decide) _) (by decide) _, ?_, ?_, ?_, ?_, ?_, ?_⟩
        · rw [am_row_s, zUp_s]
        · rw [am_row_s, zUp_n _ _ _ (by decide)]
        · rw [am_row_n _ _ _ (by decide), am_row_n _ _ _ (by decide), am_row_s, zUp_s]
        · rw [am_row_n _ _ _ (by decide), am_row_n _ _ _ (by decide), am_row_s, zUp_n _ _ _ (by decide)]
        · rw [am_row_n _ _ _ (by decide), am_row_n _ _ _ (by decide), am_row_n _ _ _ (by decide)]
        · rw [am_row_n _ _ _ (by decide), am_row_s]
    refine wp_run (k := 2) (pc1 := 18) (l1 := [(0, .ref 0)]) (st1 := [.ref 25]) (kr1 := (78, 76)) (h1 := zg1) rfl ?_
    refine wp_call (md1 := am_m_Changes_ahead) (As := [.ref 25]) (rest := []) (kr1 := (78, 76)) rfl (jt_cahead _ (by omega) y_h.2.2.2.1 (y_h.2.2.2.2.1.trans q_v)) ?_
    rintro _ _ ⟨rfl, rfl⟩
    refine wp_run (k := 1) (pc1 := 26) (l1 := [(0, .ref 0)]) (st1 := [.int (iN (zv - (zu + 1)))]) (kr1 := (78, 76)) (h1 := zg1) rfl ?_
    refine wp_ret (rv := some (.int (iN (zv - (zu + 1))))) rfl ?_
    exact ⟨fun _ => ⟨rfl, y_h⟩, fun y => absurd (by omega) y⟩
set_option maxRecDepth 20000 in
set_option maxHeartbeats 4000000 in
theorem jL_image (zd : Nat) (q_d : 4 ≤ zd) {zh : am_H} {N : Int} {G : Int → Int → Int} {S T : Int} {B : Int → Int} {zm : Int} (q_nm : zNm (zh.1 1) (zh.1 2) N G S T) (q_g : zGk N G S T) (q_m : zh.1 51 2 = iN zm) (q_hd : zHd (zh.1 24) B 16) : am_wp zd am_m_Lp_image 0 [(0, .ref 0)] [] (78, 76) zh (78, 76) (fun rv h' => rv = some (.int (iN N)) ∧ am_fr [0, 51, 52, 54] zh h' ∧ zNm (h'.1 51) (h'.1 52) N G S T ∧ h'.1 51 2 = iN (zm + 1) ∧ zHd (h'.1 54) B 16 ∧ h'.1 0 13 = iN 1) := by
  obtain ⟨zd, rfl⟩ : ∃ y_e, zd = y_e + 4 := ⟨zd - 4, by omega⟩
  have q_N := q_g.1
  refine wp_run (k := 4) (pc1 := 8) (l1 := [(0, .ref 0)]) (st1 := [.ref 1, .ref 51]) (kr1 := (78, 76)) (h1 := zh) rfl ?_
  refine wp_call (md1 := am_m_Numbers_becomeLike) (As := [.ref 51, .ref 1]) (rest := []) (kr1 := (78, 76)) rfl (jt_like_51_1 (zn := N) (zs := zm) _ (by omega) q_nm.1 q_m) ?_
  rintro _ zg1 ⟨rfl, q_e1⟩
  have q_n1 : zNm (zg1.1 51) (zg1.1 52) N G S T := by
    rw [← q_e1, am_row_s, am_row_n _ _ _ (by decide), am_row_s]
    exact zNm_cp q_N.2 q_nm ((zUp_n _ _ _ (by decide)).trans ((zUp_s _ _ _).trans q_nm.1.symm)) (fun k y => (zCq_i _ _ (by omega)).trans (congrArg (zh.1 2) (by omega)))
  have q_s1 : zg1.1 51 2 = iN (zm + 1) := by rw [← q_e1, am_row_s, zUp_s]
  have q_f1 : am_fr [51, 52] zh zg1 := by rw [← q_e1]; exact am_fr_r (am_fr_r (am_fr_0 _ _) (by decide) _) (by decide) _
  refine wp_run (k := 4) (pc1 := 19) (l1 := [(0, .ref 0)]) (st1 := [.ref 23, .ref 53]) (kr1 := (78, 76)) (h1 := zg1) rfl ?_
  refine wp_call (md1 := am_m_ByHand_becomeLike) (As := [.ref 53, .ref 23]) (rest := []) (kr1 := (78, 76)) rfl (jt_hlike_53_23 _ (by omega)) ?_
  rintro _ zg2 ⟨rfl, q_e2⟩
  have q_h2 : zHd (zg2.1 54) B 16 := by
    rw [← q_e2, am_row_s]
    intro p y1 y2
    rw [zCq_i _ _ (by omega), q_f1.2 24 (by decide)]
    exact (congrArg (zh.1 24) (by omega)).trans (q_hd p y1 y2)
  have q_f2 : am_fr [54] zg1 zg2 := by rw [← q_e2]; exact am_fr_r (am_fr_0 _ _) (by decide) _
  refine wp_run (k := 5) (pc1 := 31) (l1 := [(0, .ref 0)]) (st1 := [.ref 1]) (kr1 := (78, 76)) (h1 := am_wr zg2 0 13 (iN (1))) rfl ?_
  refine wp_call (md1 := am_m_Numbers_size) (As := [.ref 1]) (rest := []) (kr1 := (78, 76)) rfl (jt_size_1 _ (by omega) (zNm_f (ks := [0, 51, 52, 54]) (am_fr_w (am_fr_t (am_fr_m q_f1 (fun c y => by simp only [List.mem_cons, List.not_mem_nil, or_false] at y ⊢; omega)) (am_fr_m q_f2 (fun c y => by simp only [List.mem_cons, List.not_mem_nil, or_false] at y ⊢; omega))) (by decide) 13 (iN 1)) q_nm (by decide) (by decide)) q_g) ?_
  rintro _ _ ⟨rfl, rfl⟩
  refine wp_ret (rv := some (.int (iN (N)))) rfl ?_
  refine ⟨rfl, am_fr_w (am_fr_t (am_fr_m q_f1 (fun c y => by simp only [List.mem_cons, List.not_mem_nil, or_false] at y ⊢; omega)) (am_fr_m q_f2 (fun c y => by simp only [List.mem_cons, List.not_mem_nil, or_false] at y ⊢; omega))) (by decide) _ _, ?_, ?_, ?_, am_wr_at⟩
  · rw [am_wr_ne (show 51 ≠ 0 by decide), am_wr_ne (show 52 ≠ 0 by decide), q_f2.2 51 (by decide), q_f2.2 52 (by decide)]; exact q_n1
  · rw [am_wr_ne (show 51 ≠ 0 by decide), q_f2.2 51 (by decide)]; exact q_s1
  · rw [am_wr_ne (show 54 ≠ 0 by decide)]; exact q_h2
set_option maxRecDepth 20000 in
set_option maxHeartbeats 4000000 in
theorem jL_back (zd : Nat) (q_d : 4 ≤ zd) {zh : am_H} {N : Int} {G : Int → Int → Int} {S T : Int} {B : Int → Int} {zs : Int} (q_nm : zNm (zh.1 51) (zh.1 52) N G S T) (q_g : zGk N G S T) (q_0 : zh.1 0 13 = iN 1) (q_s : zh.1 1 2 = iN zs) (q_hd : zHd (zh.1 54) B 16) : am_wp zd am_m_Lp_back 0 [(0, .ref 0)] [] (78, 76) zh (78, 76) (fun rv h' => rv = some (.int (iN N)) ∧ am_fr [1, 2, 24, 25] zh h' ∧ zNm (h'.1 1) (h'.1 2) N G S T ∧ h'.1 1 2 = iN (zs + 1) ∧ zHd (h'.1 24) B 16 ∧ h'.1 25 1 = iN 0 ∧ h'.1 25 2 = iN 0) := by
  obtain ⟨zd, rfl⟩ : ∃ y_e, zd = y_e + 4 := ⟨zd - 4, by omega⟩
  have q_N := q_g.1
  refine wp_run (k := 2) (pc1 := 4) (l1 := [(0, .ref 0)]) (st1 := [.int (iN (1))]) (kr1 := (78, 76)) (h1 := zh) (Eq.trans (b := (some (4, [(0, .ref 0)], [.int (zh.1 0 13)], (78, 76), zh) : Option am_C)) rfl (by simp only [q_0, Int32.ofInt_add, Int32.ofInt_sub, Int32.ofInt_mul, Int32.ofInt_neg])) ?_
  refine wp_ne0 (a := 1) rfl (by omega) (fun b_4 => ?_) (fun b_4 => ?_)
  · refine wp_run (k := 4) (pc1 := 18) (l1 := [(0, .ref 0)]) (st1 := [.ref 51, .ref 1]) (kr1 := (78, 76)) (h1 := zh) rfl ?_
    refine wp_call (md1 := am_m_Numbers_becomeLike) (As := [.ref 1, .ref 51]) (rest := []) (kr1 := (78, 76)) rfl (jt_like_1_51 (zn := N) (zs := zs) _ (by omega) q_nm.1 q_s) ?_
    rintro _ zg1 ⟨rfl, q_e1⟩
    have q_n1 : zNm (zg1.1 1) (zg1.1 2) N G S T := by
      rw [← q_e1, am_row_s, am_row_n _ _ _ (by decide), am_row_s]
      exact zNm_cp q_N.2 q_nm ((zUp_n _ _ _ (by decide)).trans ((zUp_s _ _ _).trans q_nm.1.symm)) (fun k y => (zCq_i _ _ (by omega)).trans (congrArg (zh.1 52) (by omega)))
    have q_s1 : zg1.1 1 2 = iN (zs + 1) := by rw [← q_e1, am_row_s, zUp_s]
    have q_f1 : am_fr [1, 2] zh zg1 := by rw [← q_e1]; exact am_fr_r (am_fr_r (am_fr_0 _ _) (by decide) _) (by decide) _
    refine wp_run (k := 4) (pc1 := 29) (l1 := [(0, .ref 0)]) (st1 := [.ref 53, .ref 23]) (kr1 := (78, 76)) (h1 := zg1) rfl ?_
    refine wp_call (md1 := am_m_ByHand_becomeLike) (As := [.ref 23, .ref 53]) (rest := []) (kr1 := (78, 76)) rfl (jt_hlike_23_53 _ (by omega)) ?_
    rintro _ zg2 ⟨rfl, q_e2⟩
    have q_h2 : zHd (zg2.1 24) B 16 := by
      rw [← q_e2, am_row_s]
      intro p y1 y2
      rw [zCq_i _ _ (by omega), q_f1.2 54 (by decide)]
      exact (congrArg (zh.1 54) (by omega)).trans (q_hd p y1 y2)
    have q_f2 : am_fr [24] zg1 zg2 := by rw [← q_e2]; exact am_fr_r (am_fr_0 _ _) (by decide) _
    refine wp_run (k := 2) (pc1 := 36) (l1 := [(0, .ref 0)]) (st1 := [.ref 25]) (kr1 := (78, 76)) (h1 := zg2) rfl ?_
    refine wp_call (md1 := am_m_Changes_begin) (As := [.ref 25]) (rest := []) (kr1 := (78, 76)) rfl (jt_cbegin _ (by omega)) ?_
    rintro _ zg3 ⟨rfl, q_e3⟩
    have q_f3 : am_fr [25] zg2 zg3 := by rw [← q_e3]; exact am_fr_r (am_fr_0 _ _) (by decide) _
    have q_n3 := zNm_f q_f3 (zNm_f q_f2 q_n1 (by decide) (by decide)) (by decide) (by decide)
    refine wp_run (k := 2) (pc1 := 43) (l1 := [(0, .ref 0)]) (st1 := [.ref 1]) (kr1 := (78, 76)) (h1 := zg3) rfl ?_
    refine wp_call (md1 := am_m_Numbers_size) (As := [.ref 1]) (rest := []) (kr1 := (78, 76)) rfl (jt_size_1 _ (by omega) q_n3 q_g) ?_
    rintro _ _ ⟨rfl, rfl⟩
    refine wp_ret (rv := some (.int (iN (N)))) rfl ?_
    refine ⟨rfl, am_fr_t (am_fr_m q_f1 (fun c y => by simp only [List.mem_cons, List.not_mem_nil, or_false] at y ⊢; omega)) (am_fr_t (am_fr_m q_f2 (fun c y => by simp only [List.mem_cons, List.not_mem_nil, or_false] at y ⊢; omega)) (am_fr_m q_f3 (fun c y => by simp only [List.mem_cons, List.not_mem_nil, or_false] at y ⊢; omega))), q_n3, ?_, ?_, ?_, ?_⟩
    · rw [q_f3.2 1 (by decide), q_f2.2 1 (by decide)]; exact q_s1
    · rw [q_f3.2 24 (by decide)]; exact q_h2
    · rw [← q_e3, am_row_s, zUp_n _ _ _ (by decide), zUp_s]
    · rw [← q_e3, am_row_s, zUp_s]
  · exact absurd b_4 (by decide)
set_option maxRecDepth 20000 in
set_option maxHeartbeats 4000000 in
theorem jL_back0 (zd : Nat) (q_d : 4 ≤ zd) {zh : am_H} (q_0 : zh.1 0 13 = iN 0) : am_wp zd am_m_Lp_back 0 [(0, .ref 0)] [] (78, 76) zh (78, 76) (fun rv h' => rv = some (.int (iN (-5))) ∧ zh = h') := by
  obtain ⟨zd, rfl⟩ : ∃ y_e, zd = y_e + 4 := ⟨zd - 4, by omega⟩
  refine wp_run (k := 2) (pc1 := 4) (l1 := [(0, .ref 0)]) (st1 := [.int (iN (0))]) (kr1 := (78, 76)) (h1 := zh) (Eq.trans (b := (some (4, [(0, .ref 0)], [.int (zh.1 0 13)], (78, 76), zh) : Option am_C)) rfl (by simp only [q_0, Int32.ofInt_add, Int32.ofInt_sub, Int32.ofInt_mul, Int32.ofInt_neg])) ?_
  refine wp_ne0 (a := 0) rfl (by omega) (fun b_4 => ?_) (fun b_4 => ?_)
  · exact absurd b_4 (by decide)
  · refine wp_run (k := 1) (pc1 := 9) (l1 := [(0, .ref 0)]) (st1 := [.int (iN (-5))]) (kr1 := (78, 76)) (h1 := zh) rfl ?_
    refine wp_ret (rv := some (.int (iN (-5)))) rfl ?_
    exact ⟨rfl, rfl⟩
theorem zTf_lo {F : Int → Int} {L N : Int} : ∀ (k : Nat) (i c : Int) (G : Int → Int → Int), 0 ≤ i → i ≤ L → -100 - L ≤ (zTf F L N k i c G).1 ∨ c + 1 ≤ (zTf F L N k i c G).1 := by
  intro k
  induction k with
  | zero => intro i c G q1 q2; exact Or.inl (by show -100 - L ≤ -100 - i; omega)
  | succ k z_ih =>
    intro i c G q1 q2
    have y := zCs_rg (F := F) (L := L) (N := N) (i := i) ⟨q1, q2⟩
    have e1 : zTf F L N (k + 1) i c G = if (zCs F L N i).1 = 1 then (if (zCs F L N i).2.2.2.2 = L then (c + 1, zTg G N (zCs F L N i).2.1 (zCs F L N i).2.2.1 (zCs F L N i).2.2.2.1) else if zSg F L (zCs F L N i).2.2.2.2 = 59 then zTf F L N k ((zCs F L N i).2.2.2.2 + 1) (c + 1) (zTg G N (zCs F L N i).2.1 (zCs F L N i).2.2.1 (zCs F L N i).2.2.2.1) else (-100 - (zCs F L N i).2.2.2.2, G)) else (-100 - (zCs F L N i).2.2.2.2, G) := rfl
    rw [e1]
    by_cases z1 : (zCs F L N i).1 = 1
    · rw [if_pos z1]
      by_cases z2 : (zCs F L N i).2.2.2.2 = L
      · rw [if_pos z2]; dsimp only; omega
      · rw [if_neg z2]
        by_cases z3 : zSg F L (zCs F L N i).2.2.2.2 = 59
        · rw [if_pos z3]
          have y2 := z_ih ((zCs F L N i).2.2.2.2 + 1) (c + 1) (zTg G N (zCs F L N i).2.1 (zCs F L N i).2.2.1 (zCs F L N i).2.2.2.1) (by omega) (by omega)
          omega
        · rw [if_neg z3]; dsimp only; omega
    · rw [if_neg z1]; dsimp only; omega
set_option maxRecDepth 20000 in
set_option maxHeartbeats 4000000 in
theorem jL_read (zd : Nat) (q_d : 8 ≤ zd) {zh : am_H} {N : Int} {G : Int → Int → Int} {S T zl zt zu zs : Int} {F : Int → Int} (q_nm : zNm (zh.1 1) (zh.1 2) N G S T) (q_g : zGk N G S T) (q_l : zh.1 27 1 = iN zl) (q_r : 0 ≤ zl ∧ zl ≤ 120) (q_f : ∀ k : Int, 0 ≤ k → k < zl → zh.1 28 k.toNat = iN (F k)) (q_c : ∀ k : Int, 0 ≤ k → k < zl → 32 ≤ F k ∧ F k ≤ 126) (q_t : zh.1 34 2 = iN zt) (q_u : zh.1 25 1 = iN zu) (q_ur : 0 ≤ zu ∧ zu ≤ 12) (q_s : zh.1 1 2 = iN zs) : am_wp zd am_m_Lp_read 0 [(0, .ref 0)] [] (78, 76) zh (78, 76) (fun rv h' => (0 ≤ (zTf F zl N 121 0 0 G).1 → rv = some (.int (iN (zTf F zl N 121 0 0 G).1)) ∧ am_fr [1, 2, 25, 26, 27, 34, 35] zh h' ∧ zNtd zh zu h' ∧ zNm (h'.1 1) (h'.1 2) N (zTf F zl N 121 0 0 G).2 S T ∧ zGk N (zTf F zl N 121 0 0 G).2 S T ∧ h'.1 1 2 = iN (zs + 1) ∧ h'.1 27 1 = iN 0 ∧ ∃ zw : Int, h'.1 34 2 = iN zw ∧ zt ≤ zw ∧ zw ≤ zt + 1000) ∧ (¬ 0 ≤ (zTf F zl N 121 0 0 G).1 → rv = some (.int (iN (zTf F zl N 121 0 0 G).1)) ∧ am_fr [27, 34, 35] zh h' ∧ h'.1 27 1 = iN 0 ∧ ∃ zw : Int, h'.1 34 2 = iN zw ∧ zt ≤ zw ∧ zw ≤ zt + 1000)) := by
  obtain ⟨zd, rfl⟩ : ∃ y_e, zd = y_e + 8 := ⟨zd - 8, by omega⟩
  have q_N := q_g.1
  refine wp_run (k := 4) (pc1 := 8) (l1 := [(0, .ref 0)]) (st1 := [.ref 1, .ref 34]) (kr1 := (78, 76)) (h1 := zh) rfl ?_
  refine wp_call (md1 := am_m_Numbers_becomeLike) (As := [.ref 34, .ref 1]) (rest := []) (kr1 := (78, 76)) rfl (jt_like_34_1 (zn := N) (zs := zt) _ (by omega) q_nm.1 q_t) ?_
  rintro _ zg1 ⟨rfl, q_e1⟩
  have q_n1 : zNm (zg1.1 34) (zg1.1 35) N G S T := by
    rw [← q_e1, am_row_s, am_row_n _ _ _ (by decide), am_row_s]
    exact zNm_cp q_N.2 q_nm ((zUp_n _ _ _ (by decide)).trans ((zUp_s _ _ _).trans q_nm.1.symm)) (fun k y => (zCq_i _ _ (by omega)).trans (congrArg (zh.1 2) (by omega)))
  have q_s1 : zg1.1 34 2 = iN (zt + 1) := by rw [← q_e1, am_row_s, zUp_s]
  have q_f1 : am_fr [34, 35] zh zg1 := by rw [← q_e1]; exact am_fr_r (am_fr_r (am_fr_0 _ _) (by decide) _) (by decide) _
  refine wp_run (k := 4) (pc1 := 19) (l1 := [(0, .ref 0)]) (st1 := [.ref 34, .ref 27]) (kr1 := (78, 76)) (h1 := zg1) rfl ?_
  refine wp_call (md1 := am_m_Text_tellTo) (As := [.ref 27, .ref 34]) (rest := []) (kr1 := (78, 76)) rfl (jt_tellTo (zs := zt + 1) _ (by omega) ((congrFun (q_f1.2 27 (by decide)) 1).trans q_l) q_r (by rw [q_f1.2 28 (by decide)]; exact q_f) q_c q_n1 q_g q_s1) ?_
  rintro _ zg2 ⟨rfl, q_f2, q_n2, zu2, q_s2, q_b2, q_d2⟩
  have y_b := zTf_b (F := F) (L := zl) (N := N) 121 0 0 G (by omega) q_r.1 (by omega)
  have y_b2 := zTf_lo (F := F) (L := zl) (N := N) 121 0 0 G (by omega) q_r.1
  refine wp_run (k := 3) (pc1 := 27) (l1 := [(0, .ref 0), (1, .int (iN ((zTf F zl N 121 0 0 G).1)))]) (st1 := [.ref 27]) (kr1 := (78, 76)) (h1 := zg2) rfl ?_
  refine wp_call (md1 := am_m_Text_clear) (As := [.ref 27]) (rest := []) (kr1 := (78, 76)) rfl (jt_tclear _ (by omega)) ?_
  rintro _ zg3 ⟨rfl, q_e3⟩
  have q_f3 : am_fr [27] zg2 zg3 := by rw [← q_e3]; exact am_fr_r (am_fr_0 _ _) (by decide) _
  have q_l3 : zg3.1 27 1 = iN 0 := by rw [← q_e3, am_row_s, zUp_s]
  have q_f03 : am_fr [27, 34, 35] zh zg3 := am_fr_t (am_fr_m q_f1 (fun c y => by simp only [List.mem_cons, List.not_mem_nil, or_false] at y ⊢; omega)) (am_fr_t q_f2 (am_fr_m q_f3 (fun c y => by simp only [List.mem_cons, List.not_mem_nil, or_false] at y ⊢; omega)))
  have q_s3 := (congrFun (q_f3.2 34 (by decide)) 2).trans q_s2
  refine wp_run (k := 1) (pc1 := 31) (l1 := [(0, .ref 0), (1, .int (iN ((zTf F zl N 121 0 0 G).1)))]) (st1 := [.int (iN ((zTf F zl N 121 0 0 G).1))]) (kr1 := (78, 76)) (h1 := zg3) rfl ?_
  refine wp_ge0 (a := (zTf F zl N 121 0 0 G).1) rfl (by omega) (fun b_31 => ?_) (fun b_31 => ?_)
  · refine wp_run (k := 4) (pc1 := 44) (l1 := [(0, .ref 0), (1, .int (iN ((zTf F zl N 121 0 0 G).1)))]) (st1 := [.ref 1, .ref 25]) (kr1 := (78, 76)) (h1 := zg3) rfl ?_
    refine wp_call (md1 := am_m_Changes_note) (As := [.ref 25, .ref 1]) (rest := []) (kr1 := (78, 76)) rfl (jt_note _ (by omega) ((congrFun (q_f03.2 25 (by decide)) 1).trans q_u) q_ur) ?_
    rintro _ zg4 ⟨rfl, q_not⟩
    obtain ⟨q_f4, q_nt4⟩ := zNot_c q_not
    have q_nt0 : zNtd zh zu zg4 := by unfold zNtd at q_nt4 ⊢; rw [q_f03.2 26 (by decide), q_f03.2 2 (by decide)] at q_nt4; exact q_nt4
    have q_n4 := zNm_f q_f4 (zNm_f q_f3 (q_n2 (by omega)).1 (by decide) (by decide)) (by decide) (by decide)
    have q_s4 := (congrFun (q_f4.2 1 (by decide)) 2).trans ((congrFun (q_f03.2 1 (by decide)) 2).trans q_s)
    refine wp_run (k := 4) (pc1 := 55) (l1 := [(0, .ref 0), (1, .int (iN ((zTf F zl N 121 0 0 G).1)))]) (st1 := [.ref 34, .ref 1]) (kr1 := (78, 76)) (h1 := zg4) rfl ?_
    refine wp_call (md1 := am_m_Numbers_becomeLike) (As := [.ref 1, .ref 34]) (rest := []) (kr1 := (78, 76)) rfl (jt_like_1_34 (zn := N) (zs := zs) _ (by omega) q_n4.1 q_s4) ?_
    rintro _ zg5 ⟨rfl, q_e5⟩
    have q_n5 : zNm (zg5.1 1) (zg5.1 2) N (zTf F zl N 121 0 0 G).2 S T := by
      rw [← q_e5, am_row_s, am_row_n _ _ _ (by decide), am_row_s]
      exact zNm_cp q_N.2 q_n4 ((zUp_n _ _ _ (by decide)).trans ((zUp_s _ _ _).trans q_n4.1.symm)) (fun k y => (zCq_i _ _ (by omega)).trans (congrArg (zg4.1 35) (by omega)))
    have q_s5 : zg5.1 1 2 = iN (zs + 1) := by rw [← q_e5, am_row_s, zUp_s]
    have q_f5 : am_fr [1, 2] zg4 zg5 := by rw [← q_e5]; exact am_fr_r (am_fr_r (am_fr_0 _ _) (by decide) _) (by decide) _
    refine wp_run (k := 1) (pc1 := 59) (l1 := [(0, .ref 0), (1, .int (iN ((zTf F zl N 121 0 0 G).1)))]) (st1 := [.int (iN ((zTf F zl N 121 0 0 G).1))]) (kr1 := (78, 76)) (h1 := zg5) rfl ?_
    refine wp_ret (rv := some (.int (iN ((zTf F zl N 121 0 0 G).1)))) rfl ?_
    exact ⟨fun _ => ⟨rfl, am_fr_t (am_fr_m q_f03 (fun c y => by simp only [List.mem_cons, List.not_mem_nil, or_false] at y ⊢; omega)) (am_fr_t (am_fr_m q_f4 (fun c y => by simp only [List.mem_cons, List.not_mem_nil, or_false] at y ⊢; omega)) (am_fr_m q_f5 (fun c y => by simp only [List.mem_cons, List.not_mem_nil, or_false] at y ⊢; omega))), zNtd_f q_f5 (by decide) (by decide) q_nt0, q_n5, (q_n2 (by omega)).2, q_s5, (congrFun (q_f5.2 27 (by decide)) 1).trans ((congrFun (q_f4.2 27 (by decide)) 1).trans q_l3), zu2, (congrFun (q_f5.2 34 (by decide)) 2).trans ((congrFun (q_f4.2 34 (by decide)) 2).trans q_s3), by omega, by omega⟩, fun y => absurd (by omega) y⟩
  · refine wp_run (k := 1) (pc1 := 35) (l1 := [(0, .ref 0), (1, .int (iN ((zTf F zl N 121 0 0 G).1)))]) (st1 := [.int (iN ((zTf F zl N 121 0 0 G).1))]) (kr1 := (78, 76)) (h1 := zg3) rfl ?_
    refine wp_ret (rv := some (.int (iN ((zTf F zl N 121 0 0 G).1)))) rfl ?_
    exact ⟨fun y => by omega, fun _ => ⟨rfl, q_f03, q_l3, zu2, q_s3, by omega, by omega⟩⟩
