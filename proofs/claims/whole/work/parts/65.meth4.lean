/-! THE CLASS's methods: numbers told, the tape, rows -/
/-- the change is kept: what lies in the class's Changes -/
def zNtd (zh : am_H) (zu : Int) (zg : am_H) : Prop := zg.1 26 = zCq (if zu = 12 then zCq (zh.1 26) (zh.1 26) 0 98 1176 else zh.1 26) (zh.1 2) (98 * (if zu = 12 then 11 else zu) : Int).toNat 0 98 ∧ zg.1 25 1 = iN (if zu = 12 then 12 else zu + 1) ∧ zg.1 25 2 = iN (if zu = 12 then 12 else zu + 1)
theorem zNot_c {zh zg : am_H} {zu : Int} (q : zNot zh zu zg) : am_fr [25, 26] zh zg ∧ zNtd zh zu zg := by
  obtain ⟨fo, rfl, q1, q2⟩ := q
  refine ⟨am_fr_r (am_fr_r (am_fr_0 _ _) (by decide) _) (by decide) _, ?_, ?_, ?_⟩
  · rw [am_row_n _ _ _ (by decide), am_row_s]
  · rw [am_row_s]; exact q1
  · rw [am_row_s]; exact q2
theorem zNtd_f {zh zg zk : am_H} {zu : Int} {ks : List Nat} (q_f : am_fr ks zg zk) (q1 : 25 ∉ ks) (q2 : 26 ∉ ks) (q : zNtd zh zu zg) : zNtd zh zu zk := by
  unfold zNtd
  rw [q_f.2 _ q1, q_f.2 _ q2]
  exact q
/-- numbers were told: one change -/
def zCT (zh : am_H) (zu : Int) (zg : am_H) (N : Int) (G : Int → Int → Int) (S T zs zd : Int) : Prop := am_fr [1, 2, 25, 26] zh zg ∧ zNtd zh zu zg ∧ zNm (zg.1 1) (zg.1 2) N G S T ∧ ∃ zt : Int, zg.1 1 2 = iN zt ∧ zs < zt ∧ zt ≤ zs + zd
def zVof (N : Int) (G : Int → Int → Int) (p w : Int) : Int := if 0 ≤ p ∧ p < N ∧ 0 ≤ w ∧ w < 6 then G w p else -1
def zVcnt (N : Int) (G : Int → Int → Int) (S T L U V w : Int) : Int := if w = 0 then N else if w = 1 then zD G 0 (N - 1) else if w = 2 then L else if w = 3 then U else if w = 4 then V - U else if w = 5 then S else if w = 6 then T else -1
set_option maxRecDepth 20000 in
set_option maxHeartbeats 4000000 in
theorem jL_of (zd : Nat) (q_d : 3 ≤ zd) {zh : am_H} {N : Int} {G : Int → Int → Int} {S T : Int} {zp zw : Int} (q_nm : zNm (zh.1 1) (zh.1 2) N G S T) (q_g : zGk N G S T) (q_zpr : -2147483648 ≤ zp ∧ zp < 2147483648) (q_zwr : -2147483648 ≤ zw ∧ zw < 2147483648) : am_wp zd am_m_Lp_of 0 [(0, .ref 0), (1, .int (iN (zp))), (2, .int (iN (zw)))] [] (78, 76) zh (78, 76) (fun rv h' => rv = some (.int (iN (zVof N G zp zw))) ∧ zh = h') := by
  obtain ⟨zd, rfl⟩ : ∃ y_e, zd = y_e + 3 := ⟨zd - 3, by omega⟩
  have q_N := q_g.1
  refine wp_run (k := 3) (pc1 := 5) (l1 := [(0, .ref 0), (1, .int (iN (zp))), (2, .int (iN (zw)))]) (st1 := [.int (iN (zp)), .ref 1]) (kr1 := (78, 76)) (h1 := zh) rfl ?_
  refine wp_call (md1 := am_m_Numbers_has) (As := [.ref 1, .int (iN (zp))]) (rest := []) (kr1 := (78, 76)) rfl (jt_has_1 _ (by omega) q_nm q_g (zp := zp) (by omega)) ?_
  rintro _ _ ⟨rfl, rfl⟩
  refine wp_eqb rfl (fun b_8 => ?_) (fun b_8 => ?_)
  · refine wp_run (k := 1) (pc1 := 21) (l1 := [(0, .ref 0), (1, .int (iN (zp))), (2, .int (iN (zw)))]) (st1 := [.int (iN (-1))]) (kr1 := (78, 76)) (h1 := zh) rfl ?_
    refine wp_ret (rv := some (.int (iN (-1)))) rfl ?_
    refine ⟨?_, rfl⟩
    rw [show zVof N G zp zw = -1 from ?_]
    unfold zVof
    (repeat' split) <;> first | rfl | omega | contradiction | (exfalso; omega) | (exfalso; rename_i y_x; exact absurd y_x.2.1 (by assumption)) | (exfalso; rename_i y_x; exact y_x ⟨by omega, by assumption, by omega⟩)
  · refine wp_run (k := 2) (pc1 := 14) (l1 := [(0, .ref 0), (1, .int (iN (zp))), (2, .int (iN (zw)))]) (st1 := [.int (iN (6)), .int (iN (zw))]) (kr1 := (78, 76)) (h1 := zh) rfl ?_
    refine wp_call (md1 := am_m_Lp_inside) (As := [.int (iN (zw)), .int (iN (6))]) (rest := []) (kr1 := (78, 76)) rfl (jt_inside _ (by omega) (zi := zw) (ze := 6) (by omega) (by omega)) ?_
    rintro _ _ ⟨rfl, rfl⟩
    refine wp_neb rfl (fun b_17 => ?_) (fun b_17 => ?_)
    · refine wp_run (k := 4) (pc1 := 28) (l1 := [(0, .ref 0), (1, .int (iN (zp))), (2, .int (iN (zw)))]) (st1 := [.int (iN (zw)), .int (iN (zp)), .ref 1]) (kr1 := (78, 76)) (h1 := zh) rfl ?_
      refine wp_call (md1 := am_m_Numbers_value) (As := [.ref 1, .int (iN (zp)), .int (iN (zw))]) (rest := []) (kr1 := (78, 76)) rfl (jt_value_1 _ (by omega) q_nm q_g (zp := zp) (zw := zw) (by omega) (by omega)) ?_
      rintro _ _ ⟨rfl, rfl⟩
      refine wp_ret (rv := some (.int (iN (G (zw) (zp))))) rfl ?_
      refine ⟨?_, rfl⟩
      rw [show zVof N G zp zw = G (zw) (zp) from ?_]
      unfold zVof
      (repeat' split) <;> first | rfl | omega | contradiction | (exfalso; omega) | (exfalso; rename_i y_x; exact absurd y_x.2.1 (by assumption)) | (exfalso; rename_i y_x; exact y_x ⟨by omega, by assumption, by omega⟩)
    · refine wp_run (k := 1) (pc1 := 21) (l1 := [(0, .ref 0), (1, .int (iN (zp))), (2, .int (iN (zw)))]) (st1 := [.int (iN (-1))]) (kr1 := (78, 76)) (h1 := zh) rfl ?_
      refine wp_ret (rv := some (.int (iN (-1)))) rfl ?_
      refine ⟨?_, rfl⟩
      rw [show zVof N G zp zw = -1 from ?_]
      unfold zVof
      (repeat' split) <;> first | rfl | omega | contradiction | (exfalso; omega) | (exfalso; rename_i y_x; exact absurd y_x.2.1 (by assumption)) | (exfalso; rename_i y_x; exact y_x ⟨by omega, by assumption, by omega⟩)
set_option maxRecDepth 20000 in
set_option maxHeartbeats 4000000 in
theorem jL_calm (zd : Nat) (q_d : 3 ≤ zd) {zh : am_H} {N : Int} {G : Int → Int → Int} {S T : Int} (q_nm : zNm (zh.1 1) (zh.1 2) N G S T) (q_g : zGk N G S T) : am_wp zd am_m_Lp_calm 0 [(0, .ref 0)] [] (78, 76) zh (78, 76) (fun rv h' => rv = some (.int (iN (bI (zCalm N G T) (Classical.propDecidable _)))) ∧ zh = h') := by
  obtain ⟨zd, rfl⟩ : ∃ y_e, zd = y_e + 3 := ⟨zd - 3, by omega⟩
  have q_N := q_g.1
  refine wp_run (k := 2) (pc1 := 4) (l1 := [(0, .ref 0)]) (st1 := [.ref 1]) (kr1 := (78, 76)) (h1 := zh) rfl ?_
  refine wp_call (md1 := am_m_Numbers_areCalm) (As := [.ref 1]) (rest := []) (kr1 := (78, 76)) rfl (jt_areCalm_1 _ (by omega) q_nm q_g) ?_
  rintro _ _ ⟨rfl, rfl⟩
  refine wp_eqb rfl (fun b_7 => ?_) (fun b_7 => ?_)
  · refine wp_run (k := 1) (pc1 := 15) (l1 := [(0, .ref 0)]) (st1 := [.int (iN (0))]) (kr1 := (78, 76)) (h1 := zh) rfl ?_
    refine wp_ret (rv := some (.int (iN (0)))) rfl ?_
    exact ⟨by rw [show bI (zCalm N G T) (Classical.propDecidable _) = 0 from if_neg (by assumption)], rfl⟩
  · refine wp_run (k := 2) (pc1 := 15) (l1 := [(0, .ref 0)]) (st1 := [.int (iN (1))]) (kr1 := (78, 76)) (h1 := zh) rfl ?_
    refine wp_ret (rv := some (.int (iN (1)))) rfl ?_
    exact ⟨by rw [show bI (zCalm N G T) (Classical.propDecidable _) = 1 from if_pos (by assumption)], rfl⟩
set_option maxRecDepth 20000 in
set_option maxHeartbeats 4000000 in
theorem jL_count (zd : Nat) (q_d : 3 ≤ zd) {zh : am_H} {N : Int} {G : Int → Int → Int} {S T : Int} {zl zu zv zw : Int} (q_nm : zNm (zh.1 1) (zh.1 2) N G S T) (q_g : zGk N G S T) (q_l : zh.1 27 1 = iN zl) (q_u : zh.1 25 1 = iN zu) (q_v : zh.1 25 2 = iN zv) (q_zwr : -2147483648 ≤ zw ∧ zw < 2147483648) : am_wp zd am_m_Lp_count 0 [(0, .ref 0), (1, .int (iN (zw)))] [] (78, 76) zh (78, 76) (fun rv h' => rv = some (.int (iN (zVcnt N G S T zl zu zv zw))) ∧ zh = h') := by
  obtain ⟨zd, rfl⟩ : ∃ y_e, zd = y_e + 3 := ⟨zd - 3, by omega⟩
  have q_N := q_g.1
  refine wp_run (k := 1) (pc1 := 1) (l1 := [(0, .ref 0), (1, .int (iN (zw)))]) (st1 := [.int (iN (zw))]) (kr1 := (78, 76)) (h1 := zh) rfl ?_
  rcases (show zw = 0 ∨ zw = 1 ∨ zw = 2 ∨ zw = 3 ∨ zw = 4 ∨ zw = 5 ∨ zw = 6 ∨ (zw < 0 ∨ 6 < zw) by omega) with y_sw | y_sw | y_sw | y_sw | y_sw | y_sw | y_sw | y_sw
  · refine wp_swc (b := 0) (tg := 44) y_sw rfl (by decide) ?_
    refine wp_run (k := 2) (pc1 := 48) (l1 := [(0, .ref 0), (1, .int (iN (zw)))]) (st1 := [.ref 1]) (kr1 := (78, 76)) (h1 := zh) rfl ?_
    refine wp_call (md1 := am_m_Numbers_size) (As := [.ref 1]) (rest := []) (kr1 := (78, 76)) rfl (jt_size_1 _ (by omega) q_nm q_g) ?_
    rintro _ _ ⟨rfl, rfl⟩
    refine wp_ret (rv := some (.int (iN (N)))) rfl ?_
    refine ⟨?_, rfl⟩
    rw [show zVcnt N G S T zl zu zv zw = N from ?_]
    unfold zVcnt
    (repeat' split) <;> first | rfl | omega | contradiction | (exfalso; omega) | (exfalso; rename_i y_x; exact absurd y_x.2.1 (by assumption)) | (exfalso; rename_i y_x; exact y_x ⟨by omega, by assumption, by omega⟩)
  · refine wp_swc (b := 1) (tg := 52) y_sw rfl (by decide) ?_
    refine wp_run (k := 5) (pc1 := 61) (l1 := [(0, .ref 0), (1, .int (iN (zw)))]) (st1 := [.ref 1, .int (iN (0)), .ref 1]) (kr1 := (78, 76)) (h1 := zh) rfl ?_
    refine wp_call (md1 := am_m_Numbers_size) (As := [.ref 1]) (rest := [.int (iN (0)), .ref 1]) (kr1 := (78, 76)) rfl (jt_size_1 _ (by omega) q_nm q_g) ?_
    rintro _ _ ⟨rfl, rfl⟩
    refine wp_run (k := 2) (pc1 := 66) (l1 := [(0, .ref 0), (1, .int (iN (zw)))]) (st1 := [.int (iN ((N) - (1))), .int (iN (0)), .ref 1]) (kr1 := (78, 76)) (h1 := zh) (Eq.trans (b := (some (66, [(0, .ref 0), (1, .int (iN (zw)))], [.int ((iN (N)) - (iN (1))), .int (iN (0)), .ref 1], (78, 76), zh) : Option am_C)) rfl (by simp only [Int32.ofInt_add, Int32.ofInt_sub, Int32.ofInt_mul, Int32.ofInt_neg])) ?_
    refine wp_call (md1 := am_m_Numbers_pieces) (As := [.ref 1, .int (iN (0)), .int (iN ((N) - (1)))]) (rest := []) (kr1 := (78, 76)) rfl (jt_pieces_1 _ (by omega) q_nm q_g (za := 0) (zb := (N) - (1)) (by omega)) ?_
    rintro _ _ ⟨rfl, rfl⟩
    refine wp_ret (rv := some (.int (iN (zD G (0) ((N) - (1)))))) rfl ?_
    refine ⟨?_, rfl⟩
    rw [show zVcnt N G S T zl zu zv zw = zD G (0) ((N) - (1)) from ?_]
    unfold zVcnt
    (repeat' split) <;> first | rfl | omega | contradiction | (exfalso; omega) | (exfalso; rename_i y_x; exact absurd y_x.2.1 (by assumption)) | (exfalso; rename_i y_x; exact y_x ⟨by omega, by assumption, by omega⟩)
  · refine wp_swc (b := 2) (tg := 70) y_sw rfl (by decide) ?_
    refine wp_run (k := 2) (pc1 := 74) (l1 := [(0, .ref 0), (1, .int (iN (zw)))]) (st1 := [.ref 27]) (kr1 := (78, 76)) (h1 := zh) rfl ?_
    refine wp_call (md1 := am_m_Text_length) (As := [.ref 27]) (rest := []) (kr1 := (78, 76)) rfl (jg_Text_length_27 _ (by omega) q_l) ?_
    rintro _ _ ⟨rfl, rfl⟩
    refine wp_ret (rv := some (.int (iN (zl)))) rfl ?_
    refine ⟨?_, rfl⟩
    rw [show zVcnt N G S T zl zu zv zw = zl from ?_]
    unfold zVcnt
    (repeat' split) <;> first | rfl | omega | contradiction | (exfalso; omega) | (exfalso; rename_i y_x; exact absurd y_x.2.1 (by assumption)) | (exfalso; rename_i y_x; exact y_x ⟨by omega, by assumption, by omega⟩)
  · refine wp_swc (b := 3) (tg := 78) y_sw rfl (by decide) ?_
    refine wp_run (k := 2) (pc1 := 82) (l1 := [(0, .ref 0), (1, .int (iN (zw)))]) (st1 := [.ref 25]) (kr1 := (78, 76)) (h1 := zh) rfl ?_
    refine wp_call (md1 := am_m_Changes_behind) (As := [.ref 25]) (rest := []) (kr1 := (78, 76)) rfl (jt_cbehind _ (by omega) q_u) ?_
    rintro _ _ ⟨rfl, rfl⟩
    refine wp_ret (rv := some (.int (iN (zu)))) rfl ?_
    refine ⟨?_, rfl⟩
    rw [show zVcnt N G S T zl zu zv zw = zu from ?_]
    unfold zVcnt
    (repeat' split) <;> first | rfl | omega | contradiction | (exfalso; omega) | (exfalso; rename_i y_x; exact absurd y_x.2.1 (by assumption)) | (exfalso; rename_i y_x; exact y_x ⟨by omega, by assumption, by omega⟩)
  · refine wp_swc (b := 4) (tg := 86) y_sw rfl (by decide) ?_
    refine wp_run (k := 2) (pc1 := 90) (l1 := [(0, .ref 0), (1, .int (iN (zw)))]) (st1 := [.ref 25]) (kr1 := (78, 76)) (h1 := zh) rfl ?_
    refine wp_call (md1 := am_m_Changes_ahead) (As := [.ref 25]) (rest := []) (kr1 := (78, 76)) rfl (jt_cahead _ (by omega) q_u q_v) ?_
    rintro _ _ ⟨rfl, rfl⟩
    refine wp_ret (rv := some (.int (iN (zv - zu)))) rfl ?_
    refine ⟨?_, rfl⟩
    rw [show zVcnt N G S T zl zu zv zw = zv - zu from ?_]
    unfold zVcnt
    (repeat' split) <;> first | rfl | omega | contradiction | (exfalso; omega) | (exfalso; rename_i y_x; exact absurd y_x.2.1 (by assumption)) | (exfalso; rename_i y_x; exact y_x ⟨by omega, by assumption, by omega⟩)
  · refine wp_swc (b := 5) (tg := 94) y_sw rfl (by decide) ?_
    refine wp_run (k := 2) (pc1 := 98) (l1 := [(0, .ref 0), (1, .int (iN (zw)))]) (st1 := [.ref 1]) (kr1 := (78, 76)) (h1 := zh) rfl ?_
    refine wp_call (md1 := am_m_Numbers_store) (As := [.ref 1]) (rest := []) (kr1 := (78, 76)) rfl (jt_store_1 _ (by omega) q_nm q_g) ?_
    rintro _ _ ⟨rfl, rfl⟩
    refine wp_ret (rv := some (.int (iN (S)))) rfl ?_
    refine ⟨?_, rfl⟩
    rw [show zVcnt N G S T zl zu zv zw = S from ?_]
    unfold zVcnt
    (repeat' split) <;> first | rfl | omega | contradiction | (exfalso; omega) | (exfalso; rename_i y_x; exact absurd y_x.2.1 (by assumption)) | (exfalso; rename_i y_x; exact y_x ⟨by omega, by assumption, by omega⟩)
  · refine wp_swc (b := 6) (tg := 102) y_sw rfl (by decide) ?_
    refine wp_run (k := 2) (pc1 := 106) (l1 := [(0, .ref 0), (1, .int (iN (zw)))]) (st1 := [.ref 1]) (kr1 := (78, 76)) (h1 := zh) rfl ?_
    refine wp_call (md1 := am_m_Numbers_lateMayBe) (As := [.ref 1]) (rest := []) (kr1 := (78, 76)) rfl (jt_lateMayBe_1 _ (by omega) q_nm q_g) ?_
    rintro _ _ ⟨rfl, rfl⟩
    refine wp_ret (rv := some (.int (iN (T)))) rfl ?_
    refine ⟨?_, rfl⟩
    rw [show zVcnt N G S T zl zu zv zw = T from ?_]
    unfold zVcnt
    (repeat' split) <;> first | rfl | omega | contradiction | (exfalso; omega) | (exfalso; rename_i y_x; exact absurd y_x.2.1 (by assumption)) | (exfalso; rename_i y_x; exact y_x ⟨by omega, by assumption, by omega⟩)
  · refine wp_swd (lo := 0) (hi := 6) (tg := 110) rfl (by omega) y_sw ?_
    refine wp_run (k := 1) (pc1 := 111) (l1 := [(0, .ref 0), (1, .int (iN (zw)))]) (st1 := [.int (iN (-1))]) (kr1 := (78, 76)) (h1 := zh) rfl ?_
    refine wp_ret (rv := some (.int (iN (-1)))) rfl ?_
    refine ⟨?_, rfl⟩
    rw [show zVcnt N G S T zl zu zv zw = -1 from ?_]
    unfold zVcnt
    (repeat' split) <;> first | rfl | omega | contradiction | (exfalso; omega) | (exfalso; rename_i y_x; exact absurd y_x.2.1 (by assumption)) | (exfalso; rename_i y_x; exact y_x ⟨by omega, by assumption, by omega⟩)
set_option maxRecDepth 20000 in
set_option maxHeartbeats 4000000 in
theorem jL_feed (zd : Nat) (q_d : 4 ≤ zd) {zh : am_H} {zl zc : Int} (q_l : zh.1 27 1 = iN zl) (q_r : 0 ≤ zl ∧ zl ≤ 120) (q_zcr : -2147483648 ≤ zc ∧ zc < 2147483648) : am_wp zd am_m_Lp_feed 0 [(0, .ref 0), (1, .int (iN (zc)))] [] (78, 76) zh (78, 76) (fun rv h' => ((32 ≤ zc ∧ zc ≤ 126 ∧ zl < 120) → rv = some (.int (iN (zl + 1))) ∧ am_wr (am_wr zh 28 zl.toNat (iN zc)) 27 1 (iN (zl + 1)) = h') ∧ (¬ (32 ≤ zc ∧ zc ≤ 126 ∧ zl < 120) → rv = some (.int (iN (if 32 ≤ zc ∧ zc ≤ 126 then -3 else -1))) ∧ zh = h')) := by
  obtain ⟨zd, rfl⟩ : ∃ y_e, zd = y_e + 4 := ⟨zd - 4, by omega⟩
  refine wp_run (k := 2) (pc1 := 3) (l1 := [(0, .ref 0), (1, .int (iN (zc)))]) (st1 := [.int (iN (32)), .int (iN (zc))]) (kr1 := (78, 76)) (h1 := zh) rfl ?_
  refine wp_lt (a := zc) (b := 32) rfl (by omega) (by omega) (fun b_3 => ?_) (fun b_3 => ?_)
  · refine wp_run (k := 1) (pc1 := 13) (l1 := [(0, .ref 0), (1, .int (iN (zc)))]) (st1 := [.int (iN (-1))]) (kr1 := (78, 76)) (h1 := zh) rfl ?_
    refine wp_ret (rv := some (.int (iN (-1)))) rfl ?_
    exact ⟨fun y => by omega, fun _ => ⟨by rw [if_neg (by omega)], rfl⟩⟩
  · refine wp_run (k := 2) (pc1 := 9) (l1 := [(0, .ref 0), (1, .int (iN (zc)))]) (st1 := [.int (iN (126)), .int (iN (zc))]) (kr1 := (78, 76)) (h1 := zh) rfl ?_
    refine wp_le (a := zc) (b := 126) rfl (by omega) (by omega) (fun b_9 => ?_) (fun b_9 => ?_)
    · refine wp_run (k := 4) (pc1 := 20) (l1 := [(0, .ref 0), (1, .int (iN (zc)))]) (st1 := [.int (((iN (zc)).toUInt32 % 65536).toInt32), .ref 27]) (kr1 := (78, 76)) (h1 := zh) rfl ?_
      rw [show ((iN (zc)).toUInt32 % 65536).toInt32 = iN (zc) from (am_c16 (by omega)).2]
      refine wp_call (md1 := am_m_Text_take) (As := [.ref 27, .int (iN (zc))]) (rest := []) (kr1 := (78, 76)) rfl (jt_take (zl := zl) (zc := zc) _ (by omega) q_l q_r (am_c16 (by omega)).1) ?_
      rintro _ zg1 ⟨rfl, q_x1⟩
      refine wp_eqb rfl (fun b_23 => ?_) (fun b_23 => ?_)
      · refine wp_run (k := 1) (pc1 := 38) (l1 := [(0, .ref 0), (1, .int (iN (zc)))]) (st1 := [.int (iN (-3))]) (kr1 := (78, 76)) (h1 := zg1) rfl ?_
        refine wp_ret (rv := some (.int (iN (-3)))) rfl ?_
        rcases q_x1 with ⟨y1, y2⟩ | ⟨y1, y2⟩
        · exact ⟨fun y => by omega, fun _ => ⟨by rw [if_pos (by omega)], y2⟩⟩
        · omega
      · have y_h : am_wr (am_wr zh 28 zl.toNat (iN zc)) 27 1 (iN (zl + 1)) = zg1 := by
          rcases q_x1 with ⟨y1, y2⟩ | ⟨y1, y2⟩
          · omega
          · exact y2
        refine wp_run (k := 2) (pc1 := 30) (l1 := [(0, .ref 0), (1, .int (iN (zc)))]) (st1 := [.ref 27]) (kr1 := (78, 76)) (h1 := zg1) rfl ?_
        refine wp_call (md1 := am_m_Text_length) (As := [.ref 27]) (rest := []) (kr1 := (78, 76)) rfl (jg_Text_length_27 _ (by omega) (zv := zl + 1) (by rw [← y_h, am_wr_at])) ?_
        rintro _ _ ⟨rfl, rfl⟩
        refine wp_run (k := 1) (pc1 := 38) (l1 := [(0, .ref 0), (1, .int (iN (zc)))]) (st1 := [.int (iN (zl + 1))]) (kr1 := (78, 76)) (h1 := zg1) rfl ?_
        refine wp_ret (rv := some (.int (iN (zl + 1)))) rfl ?_
        exact ⟨fun _ => ⟨rfl, y_h⟩, fun y => by omega⟩
    · refine wp_run (k := 1) (pc1 := 13) (l1 := [(0, .ref 0), (1, .int (iN (zc)))]) (st1 := [.int (iN (-1))]) (kr1 := (78, 76)) (h1 := zh) rfl ?_
      refine wp_ret (rv := some (.int (iN (-1)))) rfl ?_
      exact ⟨fun y => by omega, fun _ => ⟨by rw [if_neg (by omega)], rfl⟩⟩
set_option maxRecDepth 20000 in
set_option maxHeartbeats 4000000 in
theorem jL_tell (zd : Nat) (q_d : 5 ≤ zd) {zh : am_H} {N : Int} {G : Int → Int → Int} {S T : Int} {zu zs zp zw zv : Int} (q_nm : zNm (zh.1 1) (zh.1 2) N G S T) (q_g : zGk N G S T) (q_u : zh.1 25 1 = iN zu) (q_ur : 0 ≤ zu ∧ zu ≤ 12) (q_s : zh.1 1 2 = iN zs) (q_zpr : -2147483648 ≤ zp ∧ zp < 2147483648) (q_zwr : -2147483648 ≤ zw ∧ zw < 2147483648) (q_zvr : -2147483648 ≤ zv ∧ zv < 2147483648) : am_wp zd am_m_Lp_tell 0 [(0, .ref 0), (1, .int (iN (zp))), (2, .int (iN (zw))), (3, .int (iN (zv)))] [] (78, 76) zh (78, 76) (fun rv h' => ((0 ≤ zp ∧ zp < N ∧ 0 ≤ zw ∧ zw < 6 ∧ 0 ≤ zv ∧ zv ≤ vmax zw) → rv = some (.int (iN (G zw zp))) ∧ zCT zh zu h' N (zG1 G zw zp zv) S T zs 1) ∧ (¬ (0 ≤ zp ∧ zp < N ∧ 0 ≤ zw ∧ zw < 6 ∧ 0 ≤ zv ∧ zv ≤ vmax zw) → rv = some (.int (iN (-1))) ∧ zh = h')) := by
  obtain ⟨zd, rfl⟩ : ∃ y_e, zd = y_e + 5 := ⟨zd - 5, by omega⟩
  have q_N := q_g.1
  refine wp_run (k := 3) (pc1 := 5) (l1 := [(0, .ref 0), (1, .int (iN (zp))), (2, .int (iN (zw))), (3, .int (iN (zv)))]) (st1 := [.int (iN (zp)), .ref 1]) (kr1 := (78, 76)) (h1 := zh) rfl ?_
  refine wp_call (md1 := am_m_Numbers_has) (As := [.ref 1, .int (iN (zp))]) (rest := []) (kr1 := (78, 76)) rfl (jt_has_1 _ (by omega) q_nm q_g (zp := zp) (by omega)) ?_
  rintro _ _ ⟨rfl, rfl⟩
  refine wp_eqb rfl (fun b_8 => ?_) (fun b_8 => ?_)
  · refine wp_run (k := 1) (pc1 := 20) (l1 := [(0, .ref 0), (1, .int (iN (zp))), (2, .int (iN (zw))), (3, .int (iN (zv)))]) (st1 := [.int (iN (-1))]) (kr1 := (78, 76)) (h1 := zh) rfl ?_
    refine wp_ret (rv := some (.int (iN (-1)))) rfl ?_
    exact ⟨fun y => by omega, fun _ => ⟨rfl, rfl⟩⟩
  · refine wp_run (k := 2) (pc1 := 13) (l1 := [(0, .ref 0), (1, .int (iN (zp))), (2, .int (iN (zw))), (3, .int (iN (zv)))]) (st1 := [.int (iN (zv)), .int (iN (zw))]) (kr1 := (78, 76)) (h1 := zh) rfl ?_
    refine wp_call (md1 := am_m_Lp_mayBe) (As := [.int (iN (zw)), .int (iN (zv))]) (rest := []) (kr1 := (78, 76)) rfl (jt_mayBe _ (by omega) (zw := zw) (zv := zv) (by omega) (by omega)) ?_
    rintro _ _ ⟨rfl, rfl⟩
    refine wp_neb rfl (fun b_16 => ?_) (fun b_16 => ?_)
    · refine wp_run (k := 4) (pc1 := 29) (l1 := [(0, .ref 0), (1, .int (iN (zp))), (2, .int (iN (zw))), (3, .int (iN (zv)))]) (st1 := [.ref 1, .ref 25]) (kr1 := (78, 76)) (h1 := zh) rfl ?_
      refine wp_call (md1 := am_m_Changes_note) (As := [.ref 25, .ref 1]) (rest := []) (kr1 := (78, 76)) rfl (jt_note _ (by omega) q_u q_ur) ?_
      rintro _ zg1 ⟨rfl, q_not⟩
      obtain ⟨q_f1, q_nt1⟩ := zNot_c q_not
      have q_nm1 := zNm_f q_f1 q_nm (by decide) (by decide)
      have q_s1 := (congrFun (q_f1.2 1 (by decide)) 2).trans q_s
      refine wp_run (k := 4) (pc1 := 38) (l1 := [(0, .ref 0), (1, .int (iN (zp))), (2, .int (iN (zw))), (3, .int (iN (zv)))]) (st1 := [.int (iN (zw)), .int (iN (zp)), .ref 1]) (kr1 := (78, 76)) (h1 := zg1) rfl ?_
      refine wp_call (md1 := am_m_Numbers_value) (As := [.ref 1, .int (iN (zp)), .int (iN (zw))]) (rest := []) (kr1 := (78, 76)) rfl (jt_value_1 _ (by omega) q_nm1 q_g (zp := zp) (zw := zw) (by omega) (by omega)) ?_
      rintro _ _ ⟨rfl, rfl⟩
      refine wp_run (k := 6) (pc1 := 50) (l1 := [(0, .ref 0), (1, .int (iN (zp))), (2, .int (iN (zw))), (3, .int (iN (zv))), (4, .int (iN (G (zw) (zp))))]) (st1 := [.int (iN (zv)), .int (iN (zw)), .int (iN (zp)), .ref 1]) (kr1 := (78, 76)) (h1 := zg1) rfl ?_
      refine wp_call (md1 := am_m_Numbers_become) (As := [.ref 1, .int (iN (zp)), .int (iN (zw)), .int (iN (zv))]) (rest := []) (kr1 := (78, 76)) rfl (jt_become_1 (zs := zs) (zp := zp) (zw := zw) (zv := zv) _ (by omega) q_nm1 q_g (by omega) (by omega) q_s1) ?_
      rintro _ zg2 ⟨rfl, fo, fc, q_e2, q_n2, q_s2⟩
      have q_f2 : am_fr [1, 2] zg1 zg2 := by rw [← q_e2]; exact am_fr_r (am_fr_r (am_fr_0 _ _) (by decide) _) (by decide) _
      have q_n3 : zNm (zg2.1 1) (zg2.1 2) N (zG1 G zw zp zv) S T := by rw [← q_e2, am_row_s, am_row_n _ _ _ (by decide), am_row_s]; exact q_n2
      have q_s3 : zg2.1 1 2 = iN (zs + 1) := by rw [← q_e2, am_row_s]; exact q_s2
      refine wp_run (k := 1) (pc1 := 55) (l1 := [(0, .ref 0), (1, .int (iN (zp))), (2, .int (iN (zw))), (3, .int (iN (zv))), (4, .int (iN (G (zw) (zp))))]) (st1 := [.int (iN (G (zw) (zp)))]) (kr1 := (78, 76)) (h1 := zg2) rfl ?_
      refine wp_ret (rv := some (.int (iN (G (zw) (zp))))) rfl ?_
      exact ⟨fun _ => ⟨rfl, ⟨am_fr_t (am_fr_m q_f1 (fun c y => by simp only [List.mem_cons, List.not_mem_nil, or_false] at y ⊢; omega)) (am_fr_m q_f2 (fun c y => by simp only [List.mem_cons, List.not_mem_nil, or_false] at y ⊢; omega)), zNtd_f q_f2 (by decide) (by decide) q_nt1, q_n3, _, q_s3, by omega, by omega⟩⟩, fun y => by omega⟩
    · refine wp_run (k := 1) (pc1 := 20) (l1 := [(0, .ref 0), (1, .int (iN (zp))), (2, .int (iN (zw))), (3, .int (iN (zv)))]) (st1 := [.int (iN (-1))]) (kr1 := (78, 76)) (h1 := zh) rfl ?_
      refine wp_ret (rv := some (.int (iN (-1)))) rfl ?_
      exact ⟨fun y => by omega, fun _ => ⟨rfl, rfl⟩⟩
def zTa (G : Int → Int → Int) (w a b v : Int) : Int → Int → Int := fun w' p' => if w' = w ∧ a ≤ p' ∧ p' ≤ b then v else G w' p'
theorem zTa_gk {N : Int} {G : Int → Int → Int} {S T w a b v : Int} (q : zGk N G S T) (q_v : 0 ≤ v ∧ v ≤ vmax w) : zGk N (zTa G w a b v) S T := by
  refine ⟨q.1, fun w' p' y1 y2 y3 y4 => ?_, q.2.2⟩
  unfold zTa
  split
  · rename_i y; rw [y.1]; exact q_v
  · exact q.2.1 w' p' y1 y2 y3 y4
set_option maxRecDepth 20000 in
set_option maxHeartbeats 4000000 in
theorem jl_tellAll (zd : Nat) (q_d : 3 ≤ zd) {zh : am_H} {N : Int} {G : Int → Int → Int} {S T zw zv zs za zb : Int} (q_w : 0 ≤ zw ∧ zw < 6) (q_v : 0 ≤ zv ∧ zv ≤ vmax zw) (q_e : 0 ≤ za ∧ za ≤ zb ∧ zb < N) (q_N : 1 ≤ N ∧ N ≤ 16) {zQ : Option Value → am_H → Prop} (zk2 : ∀ (zg : am_H) (zK : Int → Int → Int), am_fr [1, 2] zh zg → zNm (zg.1 1) (zg.1 2) N zK S T → zg.1 1 2 = iN (zs + (zb + 1 - za)) → (∀ w p : Int, zK w p = if w = zw ∧ za ≤ p ∧ p < zb + 1 then zv else G w p) → zQ (some (.int (iN (zb - za + 1)))) zg) : ∀ (z_n : Nat) (zg : am_H) (zi : Int) (zK : Int → Int → Int) (q_fr : am_fr [1, 2] zh zg) (q_nm1 : zNm (zg.1 1) (zg.1 2) N zK S T) (q_gk : zGk N zK S T) (q_st : zg.1 1 2 = iN (zs + (zi - za))) (q_i : za ≤ zi ∧ zi ≤ zb + 1) (q_G : ∀ w p : Int, zK w p = if w = zw ∧ za ≤ p ∧ p < zi then zv else G w p), zb + 1 - zi < (z_n : Int) → am_wp zd am_m_Lp_tellAll 52 [(0, .ref 0), (1, .int (iN (za))), (2, .int (iN (zb))), (3, .int (iN (zw))), (4, .int (iN (zv))), (5, .int (iN (zi)))] [] (78, 76) zg (78, 76) zQ := by
  obtain ⟨zd, rfl⟩ : ∃ y_e, zd = y_e + 3 := ⟨zd - 3, by omega⟩
  intro z_n
  induction z_n with
  | zero => intro zg zi zK q_fr q_nm1 q_gk q_st q_i q_G q_m; omega
  | succ z_n z_ih =>
    intro zg zi zK q_fr q_nm1 q_gk q_st q_i q_G q_m
    refine wp_run (k := 2) (pc1 := 55) (l1 := [(0, .ref 0), (1, .int (iN (za))), (2, .int (iN (zb))), (3, .int (iN (zw))), (4, .int (iN (zv))), (5, .int (iN (zi)))]) (st1 := [.int (iN (zb)), .int (iN (zi))]) (kr1 := (78, 76)) (h1 := zg) rfl ?_
    refine wp_gt (a := zi) (b := zb) rfl (by omega) (by omega) (fun b_55 => ?_) (fun b_55 => ?_)
    · refine wp_run (k := 5) (pc1 := 81) (l1 := [(0, .ref 0), (1, .int (iN (za))), (2, .int (iN (zb))), (3, .int (iN (zw))), (4, .int (iN (zv))), (5, .int (iN (zi)))]) (st1 := [.int (iN (((zb) - (za)) + (1)))]) (kr1 := (78, 76)) (h1 := zg) (Eq.trans (b := (some (81, [(0, .ref 0), (1, .int (iN (za))), (2, .int (iN (zb))), (3, .int (iN (zw))), (4, .int (iN (zv))), (5, .int (iN (zi)))], [.int (((iN (zb)) - (iN (za))) + (iN (1)))], (78, 76), zg) : Option am_C)) rfl (by simp only [Int32.ofInt_add, Int32.ofInt_sub, Int32.ofInt_mul, Int32.ofInt_neg])) ?_
      refine wp_ret (rv := some (.int (iN (((zb) - (za)) + (1))))) rfl ?_
      exact zk2 zg zK q_fr q_nm1 (by rw [q_st, show zi - za = zb + 1 - za by omega]) (fun w p => by rw [q_G w p, show zi = zb + 1 by omega])
    · refine wp_run (k := 5) (pc1 := 67) (l1 := [(0, .ref 0), (1, .int (iN (za))), (2, .int (iN (zb))), (3, .int (iN (zw))), (4, .int (iN (zv))), (5, .int (iN (zi)))]) (st1 := [.int (iN (zv)), .int (iN (zw)), .int (iN (zi)), .ref 1]) (kr1 := (78, 76)) (h1 := zg) rfl ?_
      refine wp_call (md1 := am_m_Numbers_become) (As := [.ref 1, .int (iN (zi)), .int (iN (zw)), .int (iN (zv))]) (rest := []) (kr1 := (78, 76)) rfl (jt_become_1 (zs := zs + (zi - za)) _ (by omega) q_nm1 q_gk (zp := zi) (zw := zw) (zv := zv) (by omega) q_w q_st) ?_
      rintro _ _ ⟨rfl, fo, fc, rfl, q_n2, q_s2⟩
      refine wp_run (k := 2) (pc1 := 52) (l1 := [(0, .ref 0), (1, .int (iN (za))), (2, .int (iN (zb))), (3, .int (iN (zw))), (4, .int (iN (zv))), (5, .int (iN ((zi) + 1)))]) (st1 := []) (kr1 := (78, 76)) (h1 := am_row (am_row zg 2 fc) 1 fo) (Eq.trans (b := (some (52, [(0, .ref 0), (1, .int (iN (za))), (2, .int (iN (zb))), (3, .int (iN (zw))), (4, .int (iN (zv))), (5, .int ((iN (zi)) + iN (1)))], [], (78, 76), am_row (am_row zg 2 fc) 1 fo) : Option am_C)) rfl (by simp only [Int32.ofInt_add, Int32.ofInt_sub, Int32.ofInt_mul, Int32.ofInt_neg])) ?_
      refine z_ih (am_row (am_row zg 2 fc) 1 fo) (zi + 1) (zG1 zK zw zi zv) (am_fr_r (am_fr_r q_fr (by decide) _) (by decide) _) ?_ (zGk_up q_gk q_v) ?_ (by omega) ?_ (by omega)
      · rw [am_row_s, am_row_n _ _ _ (by decide), am_row_s]; exact q_n2
      · rw [am_row_s, q_s2]; exact congrArg iN (by omega)
      · intro w p
        unfold zG1
        by_cases y1 : w = zw ∧ p = zi
        · rw [if_pos y1, if_pos (by omega)]
        · rw [if_neg y1, q_G w p]
          by_cases y2 : w = zw ∧ za ≤ p ∧ p < zi
          · rw [if_pos y2, if_pos (by omega)]
          · rw [if_neg y2, if_neg (by omega)]
set_option maxRecDepth 20000 in
set_option maxHeartbeats 4000000 in
theorem jL_tellAll (zd : Nat) (q_d : 5 ≤ zd) {zh : am_H} {N : Int} {G : Int → Int → Int} {S T : Int} {zu zs za zb zw zv : Int} (q_nm : zNm (zh.1 1) (zh.1 2) N G S T) (q_g : zGk N G S T) (q_u : zh.1 25 1 = iN zu) (q_ur : 0 ≤ zu ∧ zu ≤ 12) (q_s : zh.1 1 2 = iN zs) (q_zar : -2147483648 ≤ za ∧ za < 2147483648) (q_zbr : -2147483648 ≤ zb ∧ zb < 2147483648) (q_zwr : -2147483648 ≤ zw ∧ zw < 2147483648) (q_zvr : -2147483648 ≤ zv ∧ zv < 2147483648) : am_wp zd am_m_Lp_tellAll 0 [(0, .ref 0), (1, .int (iN (za))), (2, .int (iN (zb))), (3, .int (iN (zw))), (4, .int (iN (zv)))] [] (78, 76) zh (78, 76) (fun rv h' => ((0 ≤ za ∧ za < N ∧ 0 ≤ zb ∧ zb < N ∧ za ≤ zb ∧ 0 ≤ zw ∧ zw < 6 ∧ 0 ≤ zv ∧ zv ≤ vmax zw) → rv = some (.int (iN (zb - za + 1))) ∧ zCT zh zu h' N (zTa G zw za zb zv) S T zs 16) ∧ (¬ (0 ≤ za ∧ za < N ∧ 0 ≤ zb ∧ zb < N ∧ za ≤ zb ∧ 0 ≤ zw ∧ zw < 6 ∧ 0 ≤ zv ∧ zv ≤ vmax zw) → rv = some (.int (iN (-1))) ∧ zh = h')) := by
  obtain ⟨zd, rfl⟩ : ∃ y_e, zd = y_e + 5 := ⟨zd - 5, by omega⟩
  have q_N := q_g.1
  refine wp_run (k := 3) (pc1 := 5) (l1 := [(0, .ref 0), (1, .int (iN (za))), (2, .int (iN (zb))), (3, .int (iN (zw))), (4, .int (iN (zv)))]) (st1 := [.int (iN (za)), .ref 1]) (kr1 := (78, 76)) (h1 := zh) rfl ?_
  refine wp_call (md1 := am_m_Numbers_has) (As := [.ref 1, .int (iN (za))]) (rest := []) (kr1 := (78, 76)) rfl (jt_has_1 _ (by omega) q_nm q_g (zp := za) (by omega)) ?_
  rintro _ _ ⟨rfl, rfl⟩
  refine wp_eqb rfl (fun b_8 => ?_) (fun b_8 => ?_)
  · refine wp_run (k := 1) (pc1 := 37) (l1 := [(0, .ref 0), (1, .int (iN (za))), (2, .int (iN (zb))), (3, .int (iN (zw))), (4, .int (iN (zv)))]) (st1 := [.int (iN (-1))]) (kr1 := (78, 76)) (h1 := zh) rfl ?_
    refine wp_ret (rv := some (.int (iN (-1)))) rfl ?_
    exact ⟨fun y => by omega, fun _ => ⟨rfl, rfl⟩⟩
  · refine wp_run (k := 3) (pc1 := 16) (l1 := [(0, .ref 0), (1, .int (iN (za))), (2, .int (iN (zb))), (3, .int (iN (zw))), (4, .int (iN (zv)))]) (st1 := [.int (iN (zb)), .ref 1]) (kr1 := (78, 76)) (h1 := zh) rfl ?_
    refine wp_call (md1 := am_m_Numbers_has) (As := [.ref 1, .int (iN (zb))]) (rest := []) (kr1 := (78, 76)) rfl (jt_has_1 _ (by omega) q_nm q_g (zp := zb) (by omega)) ?_
    rintro _ _ ⟨rfl, rfl⟩
    refine wp_eqb rfl (fun b_19 => ?_) (fun b_19 => ?_)
    · refine wp_run (k := 1) (pc1 := 37) (l1 := [(0, .ref 0), (1, .int (iN (za))), (2, .int (iN (zb))), (3, .int (iN (zw))), (4, .int (iN (zv)))]) (st1 := [.int (iN (-1))]) (kr1 := (78, 76)) (h1 := zh) rfl ?_
      refine wp_ret (rv := some (.int (iN (-1)))) rfl ?_
      exact ⟨fun y => by omega, fun _ => ⟨rfl, rfl⟩⟩
    · refine wp_run (k := 2) (pc1 := 24) (l1 := [(0, .ref 0), (1, .int (iN (za))), (2, .int (iN (zb))), (3, .int (iN (zw))), (4, .int (iN (zv)))]) (st1 := [.int (iN (zb)), .int (iN (za))]) (kr1 := (78, 76)) (h1 := zh) rfl ?_
      refine wp_gt (a := za) (b := zb) rfl (by omega) (by omega) (fun b_24 => ?_) (fun b_24 => ?_)
      · refine wp_run (k := 1) (pc1 := 37) (l1 := [(0, .ref 0), (1, .int (iN (za))), (2, .int (iN (zb))), (3, .int (iN (zw))), (4, .int (iN (zv)))]) (st1 := [.int (iN (-1))]) (kr1 := (78, 76)) (h1 := zh) rfl ?_
        refine wp_ret (rv := some (.int (iN (-1)))) rfl ?_
        exact ⟨fun y => by omega, fun _ => ⟨rfl, rfl⟩⟩
      · refine wp_run (k := 2) (pc1 := 30) (l1 := [(0, .ref 0), (1, .int (iN (za))), (2, .int (iN (zb))), (3, .int (iN (zw))), (4, .int (iN (zv)))]) (st1 := [.int (iN (zv)), .int (iN (zw))]) (kr1 := (78, 76)) (h1 := zh) rfl ?_
        refine wp_call (md1 := am_m_Lp_mayBe) (As := [.int (iN (zw)), .int (iN (zv))]) (rest := []) (kr1 := (78, 76)) rfl (jt_mayBe _ (by omega) (zw := zw) (zv := zv) (by omega) (by omega)) ?_
        rintro _ _ ⟨rfl, rfl⟩
        refine wp_neb rfl (fun b_33 => ?_) (fun b_33 => ?_)
        · refine wp_run (k := 4) (pc1 := 46) (l1 := [(0, .ref 0), (1, .int (iN (za))), (2, .int (iN (zb))), (3, .int (iN (zw))), (4, .int (iN (zv)))]) (st1 := [.ref 1, .ref 25]) (kr1 := (78, 76)) (h1 := zh) rfl ?_
          refine wp_call (md1 := am_m_Changes_note) (As := [.ref 25, .ref 1]) (rest := []) (kr1 := (78, 76)) rfl (jt_note _ (by omega) q_u q_ur) ?_
          rintro _ zg1 ⟨rfl, q_not⟩
          obtain ⟨q_f1, q_nt1⟩ := zNot_c q_not
          have q_nm1 := zNm_f q_f1 q_nm (by decide) (by decide)
          have q_s1 := (congrFun (q_f1.2 1 (by decide)) 2).trans q_s
          refine wp_run (k := 2) (pc1 := 52) (l1 := [(0, .ref 0), (1, .int (iN (za))), (2, .int (iN (zb))), (3, .int (iN (zw))), (4, .int (iN (zv))), (5, .int (iN (za)))]) (st1 := []) (kr1 := (78, 76)) (h1 := zg1) rfl ?_
          refine jl_tellAll (zh := zg1) (G := G) (zs := zs) _ (by omega) (by omega) (by omega) (by omega) q_N (fun zg zK y1 y2 y3 y4 => ⟨fun _ => ⟨rfl, am_fr_t (am_fr_m q_f1 (fun c y => by simp only [List.mem_cons, List.not_mem_nil, or_false] at y ⊢; omega)) (am_fr_m y1 (fun c y => by simp only [List.mem_cons, List.not_mem_nil, or_false] at y ⊢; omega)), zNtd_f y1 (by decide) (by decide) q_nt1, zNm_eq y2 (fun w p z1 z2 z3 z4 => ?_), _, y3, by omega, by omega⟩, fun y => by omega⟩) 18 zg1 za G (am_fr_0 _ _) q_nm1 q_g (by rw [q_s1]; exact congrArg iN (by omega)) (by omega) (fun w p => (if_neg (by omega)).symm) (by omega)
          rw [y4 w p]
          unfold zTa
          by_cases y5 : w = zw ∧ za ≤ p ∧ p < zb + 1
          · rw [if_pos y5, if_pos (by omega)]
          · rw [if_neg y5, if_neg (by omega)]
        · refine wp_run (k := 1) (pc1 := 37) (l1 := [(0, .ref 0), (1, .int (iN (za))), (2, .int (iN (zb))), (3, .int (iN (zw))), (4, .int (iN (zv)))]) (st1 := [.int (iN (-1))]) (kr1 := (78, 76)) (h1 := zh) rfl ?_
          refine wp_ret (rv := some (.int (iN (-1)))) rfl ?_
          exact ⟨fun y => by omega, fun _ => ⟨rfl, rfl⟩⟩
set_option maxRecDepth 20000 in
set_option maxHeartbeats 4000000 in
theorem jL_let (zd : Nat) (q_d : 5 ≤ zd) {zh : am_H} {N : Int} {G : Int → Int → Int} {S T : Int} {zu zs zw zv : Int} (q_nm : zNm (zh.1 1) (zh.1 2) N G S T) (q_g : zGk N G S T) (q_u : zh.1 25 1 = iN zu) (q_ur : 0 ≤ zu ∧ zu ≤ 12) (q_s : zh.1 1 2 = iN zs) (q_zwr : -2147483648 ≤ zw ∧ zw < 2147483648) (q_zvr : -2147483648 ≤ zv ∧ zv < 2147483648) : am_wp zd am_m_Lp_let 0 [(0, .ref 0), (1, .int (iN (zw))), (2, .int (iN (zv)))] [] (78, 76) zh (78, 76) (fun rv h' => ((0 ≤ zw ∧ zw ≤ 1 ∧ 0 ≤ zv ∧ zv ≤ (if zw = 0 then 999 else 1)) → rv = some (.int (iN (if zw = 0 then S else T))) ∧ zCT zh zu h' N G (if zw = 0 then zv else S) (if zw = 0 then T else zv) zs 1) ∧ (¬ (0 ≤ zw ∧ zw ≤ 1 ∧ 0 ≤ zv ∧ zv ≤ (if zw = 0 then 999 else 1)) → rv = some (.int (iN (-1))) ∧ zh = h')) := by
  obtain ⟨zd, rfl⟩ : ∃ y_e, zd = y_e + 5 := ⟨zd - 5, by omega⟩
  have q_N := q_g.1
  refine wp_run (k := 1) (pc1 := 1) (l1 := [(0, .ref 0), (1, .int (iN (zw))), (2, .int (iN (zv)))]) (st1 := [.int (iN (zw))]) (kr1 := (78, 76)) (h1 := zh) rfl ?_
  refine wp_lt0 (a := zw) rfl (by omega) (fun b_1 => ?_) (fun b_1 => ?_)
  · refine wp_run (k := 1) (pc1 := 29) (l1 := [(0, .ref 0), (1, .int (iN (zw))), (2, .int (iN (zv)))]) (st1 := [.int (iN (-1))]) (kr1 := (78, 76)) (h1 := zh) rfl ?_
    refine wp_ret (rv := some (.int (iN (-1)))) rfl ?_
    refine ⟨fun y => ?_, fun _ => ⟨rfl, rfl⟩⟩
    obtain ⟨y1, y2, y3, y4⟩ := y
    by_cases y5 : zw = 0
    · rw [if_pos y5] at y4; omega
    · rw [if_neg y5] at y4; omega
  · refine wp_run (k := 2) (pc1 := 6) (l1 := [(0, .ref 0), (1, .int (iN (zw))), (2, .int (iN (zv)))]) (st1 := [.int (iN (1)), .int (iN (zw))]) (kr1 := (78, 76)) (h1 := zh) rfl ?_
    refine wp_gt (a := zw) (b := 1) rfl (by omega) (by omega) (fun b_6 => ?_) (fun b_6 => ?_)
    · refine wp_run (k := 1) (pc1 := 29) (l1 := [(0, .ref 0), (1, .int (iN (zw))), (2, .int (iN (zv)))]) (st1 := [.int (iN (-1))]) (kr1 := (78, 76)) (h1 := zh) rfl ?_
      refine wp_ret (rv := some (.int (iN (-1)))) rfl ?_
      refine ⟨fun y => ?_, fun _ => ⟨rfl, rfl⟩⟩
      obtain ⟨y1, y2, y3, y4⟩ := y
      by_cases y5 : zw = 0
      · rw [if_pos y5] at y4; omega
      · rw [if_neg y5] at y4; omega
    · refine wp_run (k := 1) (pc1 := 10) (l1 := [(0, .ref 0), (1, .int (iN (zw))), (2, .int (iN (zv)))]) (st1 := [.int (iN (zv))]) (kr1 := (78, 76)) (h1 := zh) rfl ?_
      refine wp_lt0 (a := zv) rfl (by omega) (fun b_10 => ?_) (fun b_10 => ?_)
      · refine wp_run (k := 1) (pc1 := 29) (l1 := [(0, .ref 0), (1, .int (iN (zw))), (2, .int (iN (zv)))]) (st1 := [.int (iN (-1))]) (kr1 := (78, 76)) (h1 := zh) rfl ?_
        refine wp_ret (rv := some (.int (iN (-1)))) rfl ?_
        refine ⟨fun y => ?_, fun _ => ⟨rfl, rfl⟩⟩
        obtain ⟨y1, y2, y3, y4⟩ := y
        by_cases y5 : zw = 0
        · rw [if_pos y5] at y4; omega
        · rw [if_neg y5] at y4; omega
      · refine wp_run (k := 2) (pc1 := 15) (l1 := [(0, .ref 0), (1, .int (iN (zw))), (2, .int (iN (zv)))]) (st1 := [.int (iN (zw)), .int (iN (zv))]) (kr1 := (78, 76)) (h1 := zh) rfl ?_
        refine wp_ne0 (a := zw) rfl (by omega) (fun b_15 => ?_) (fun b_15 => ?_)
        · refine wp_run (k := 1) (pc1 := 25) (l1 := [(0, .ref 0), (1, .int (iN (zw))), (2, .int (iN (zv)))]) (st1 := [.int (iN (1)), .int (iN (zv))]) (kr1 := (78, 76)) (h1 := zh) rfl ?_
          refine wp_le (a := zv) (b := 1) rfl (by omega) (by omega) (fun b_25 => ?_) (fun b_25 => ?_)
          · refine wp_run (k := 4) (pc1 := 38) (l1 := [(0, .ref 0), (1, .int (iN (zw))), (2, .int (iN (zv)))]) (st1 := [.ref 1, .ref 25]) (kr1 := (78, 76)) (h1 := zh) rfl ?_
            refine wp_call (md1 := am_m_Changes_note) (As := [.ref 25, .ref 1]) (rest := []) (kr1 := (78, 76)) rfl (jt_note _ (by omega) q_u q_ur) ?_
            rintro _ zg1 ⟨rfl, q_not⟩
            obtain ⟨q_f1, q_nt1⟩ := zNot_c q_not
            have q_nm1 := zNm_f q_f1 q_nm (by decide) (by decide)
            have q_s1 := (congrFun (q_f1.2 1 (by decide)) 2).trans q_s
            refine wp_run (k := 1) (pc1 := 42) (l1 := [(0, .ref 0), (1, .int (iN (zw))), (2, .int (iN (zv)))]) (st1 := [.int (iN (zw))]) (kr1 := (78, 76)) (h1 := zg1) rfl ?_
            refine wp_ne0 (a := zw) rfl (by omega) (fun b_42 => ?_) (fun b_42 => ?_)
            · refine wp_run (k := 2) (pc1 := 59) (l1 := [(0, .ref 0), (1, .int (iN (zw))), (2, .int (iN (zv)))]) (st1 := [.ref 1]) (kr1 := (78, 76)) (h1 := zg1) rfl ?_
              refine wp_call (md1 := am_m_Numbers_lateMayBe) (As := [.ref 1]) (rest := []) (kr1 := (78, 76)) rfl (jt_lateMayBe_1 _ (by omega) q_nm1 q_g) ?_
              rintro _ _ ⟨rfl, rfl⟩
              refine wp_run (k := 2) (pc1 := 64) (l1 := [(0, .ref 0), (1, .int (iN (zw))), (2, .int (iN (zv))), (3, .int (iN (T)))]) (st1 := [.int (iN (zw))]) (kr1 := (78, 76)) (h1 := zg1) rfl ?_
              refine wp_ne0 (a := zw) rfl (by omega) (fun b_64 => ?_) (fun b_64 => ?_)
              · refine wp_run (k := 3) (pc1 := 83) (l1 := [(0, .ref 0), (1, .int (iN (zw))), (2, .int (iN (zv))), (3, .int (iN (T)))]) (st1 := [.int (iN (zv)), .ref 1]) (kr1 := (78, 76)) (h1 := zg1) rfl ?_
                refine wp_call (md1 := am_m_Numbers_lateMayBeBecomes) (As := [.ref 1, .int (iN (zv))]) (rest := []) (kr1 := (78, 76)) rfl (jt_lateMayBeBecomes_1 (zs := zs) (zv := zv) _ (by omega) q_nm1 q_g q_s1) ?_
                rintro _ zg2 ⟨rfl, fo, fc, q_e2, q_n2, q_s2⟩
                have q_f2 : am_fr [1, 2] zg1 zg2 := by rw [← q_e2]; exact am_fr_r (am_fr_r (am_fr_0 _ _) (by decide) _) (by decide) _
                have q_n3 : zNm (zg2.1 1) (zg2.1 2) N G S zv := by rw [← q_e2, am_row_s, am_row_n _ _ _ (by decide), am_row_s]; exact q_n2
                have q_s3 : zg2.1 1 2 = iN (zs + 1) := by rw [← q_e2, am_row_s]; exact q_s2
                refine wp_run (k := 1) (pc1 := 87) (l1 := [(0, .ref 0), (1, .int (iN (zw))), (2, .int (iN (zv))), (3, .int (iN (T)))]) (st1 := [.int (iN (T))]) (kr1 := (78, 76)) (h1 := zg2) rfl ?_
                refine wp_ret (rv := some (.int (iN (T)))) rfl ?_
                refine ⟨fun _ => ⟨by rw [if_neg (by omega)], ?_⟩, fun y => absurd ⟨by omega, by omega, by omega, by rw [if_neg (by omega)]; omega⟩ y⟩
                rw [if_neg (show ¬ zw = 0 by omega), if_neg (show ¬ zw = 0 by omega)]
                exact ⟨am_fr_t (am_fr_m q_f1 (fun c y => by simp only [List.mem_cons, List.not_mem_nil, or_false] at y ⊢; omega)) (am_fr_m q_f2 (fun c y => by simp only [List.mem_cons, List.not_mem_nil, or_false] at y ⊢; omega)), zNtd_f q_f2 (by decide) (by decide) q_nt1, q_n3, _, q_s3, by omega, by omega⟩
              · exact absurd b_64 (by omega)
            · exact absurd b_42 (by omega)
          · refine wp_run (k := 1) (pc1 := 29) (l1 := [(0, .ref 0), (1, .int (iN (zw))), (2, .int (iN (zv)))]) (st1 := [.int (iN (-1))]) (kr1 := (78, 76)) (h1 := zh) rfl ?_
            refine wp_ret (rv := some (.int (iN (-1)))) rfl ?_
            refine ⟨fun y => ?_, fun _ => ⟨rfl, rfl⟩⟩
            obtain ⟨y1, y2, y3, y4⟩ := y
            by_cases y5 : zw = 0
            · rw [if_pos y5] at y4; omega
            · rw [if_neg y5] at y4; omega
        · refine wp_run (k := 2) (pc1 := 25) (l1 := [(0, .ref 0), (1, .int (iN (zw))), (2, .int (iN (zv)))]) (st1 := [.int (iN (999)), .int (iN (zv))]) (kr1 := (78, 76)) (h1 := zh) rfl ?_
          refine wp_le (a := zv) (b := 999) rfl (by omega) (by omega) (fun b_25 => ?_) (fun b_25 => ?_)
          · refine wp_run (k := 4) (pc1 := 38) (l1 := [(0, .ref 0), (1, .int (iN (zw))), (2, .int (iN (zv)))]) (st1 := [.ref 1, .ref 25]) (kr1 := (78, 76)) (h1 := zh) rfl ?_
            refine wp_call (md1 := am_m_Changes_note) (As := [.ref 25, .ref 1]) (rest := []) (kr1 := (78, 76)) rfl (jt_note _ (by omega) q_u q_ur) ?_
            rintro _ zg1 ⟨rfl, q_not⟩
            obtain ⟨q_f1, q_nt1⟩ := zNot_c q_not
            have q_nm1 := zNm_f q_f1 q_nm (by decide) (by decide)
            have q_s1 := (congrFun (q_f1.2 1 (by decide)) 2).trans q_s
            refine wp_run (k := 1) (pc1 := 42) (l1 := [(0, .ref 0), (1, .int (iN (zw))), (2, .int (iN (zv)))]) (st1 := [.int (iN (zw))]) (kr1 := (78, 76)) (h1 := zg1) rfl ?_
            refine wp_ne0 (a := zw) rfl (by omega) (fun b_42 => ?_) (fun b_42 => ?_)
            · exact absurd b_42 (by omega)
            · refine wp_run (k := 2) (pc1 := 49) (l1 := [(0, .ref 0), (1, .int (iN (zw))), (2, .int (iN (zv)))]) (st1 := [.ref 1]) (kr1 := (78, 76)) (h1 := zg1) rfl ?_
              refine wp_call (md1 := am_m_Numbers_store) (As := [.ref 1]) (rest := []) (kr1 := (78, 76)) rfl (jt_store_1 _ (by omega) q_nm1 q_g) ?_
              rintro _ _ ⟨rfl, rfl⟩
              refine wp_run (k := 3) (pc1 := 64) (l1 := [(0, .ref 0), (1, .int (iN (zw))), (2, .int (iN (zv))), (3, .int (iN (S)))]) (st1 := [.int (iN (zw))]) (kr1 := (78, 76)) (h1 := zg1) rfl ?_
              refine wp_ne0 (a := zw) rfl (by omega) (fun b_64 => ?_) (fun b_64 => ?_)
              · exact absurd b_64 (by omega)
              · refine wp_run (k := 3) (pc1 := 72) (l1 := [(0, .ref 0), (1, .int (iN (zw))), (2, .int (iN (zv))), (3, .int (iN (S)))]) (st1 := [.int (iN (zv)), .ref 1]) (kr1 := (78, 76)) (h1 := zg1) rfl ?_
                refine wp_call (md1 := am_m_Numbers_storeBecomes) (As := [.ref 1, .int (iN (zv))]) (rest := []) (kr1 := (78, 76)) rfl (jt_storeBecomes_1 (zs := zs) (zv := zv) _ (by omega) q_nm1 q_g q_s1) ?_
                rintro _ zg2 ⟨rfl, fo, fc, q_e2, q_n2, q_s2⟩
                have q_f2 : am_fr [1, 2] zg1 zg2 := by rw [← q_e2]; exact am_fr_r (am_fr_r (am_fr_0 _ _) (by decide) _) (by decide) _
                have q_n3 : zNm (zg2.1 1) (zg2.1 2) N G zv T := by rw [← q_e2, am_row_s, am_row_n _ _ _ (by decide), am_row_s]; exact q_n2
                have q_s3 : zg2.1 1 2 = iN (zs + 1) := by rw [← q_e2, am_row_s]; exact q_s2
                refine wp_run (k := 2) (pc1 := 87) (l1 := [(0, .ref 0), (1, .int (iN (zw))), (2, .int (iN (zv))), (3, .int (iN (S)))]) (st1 := [.int (iN (S))]) (kr1 := (78, 76)) (h1 := zg2) rfl ?_
                refine wp_ret (rv := some (.int (iN (S)))) rfl ?_
                refine ⟨fun _ => ⟨by rw [if_pos (by omega)], ?_⟩, fun y => absurd ⟨by omega, by omega, by omega, by rw [if_pos (by omega)]; omega⟩ y⟩
                rw [if_pos (show zw = 0 by omega), if_pos (show zw = 0 by omega)]
                exact ⟨am_fr_t (am_fr_m q_f1 (fun c y => by simp only [List.mem_cons, List.not_mem_nil, or_false] at y ⊢; omega)) (am_fr_m q_f2 (fun c y => by simp only [List.mem_cons, List.not_mem_nil, or_false] at y ⊢; omega)), zNtd_f q_f2 (by decide) (by decide) q_nt1, q_n3, _, q_s3, by omega, by omega⟩
          · refine wp_run (k := 1) (pc1 := 29) (l1 := [(0, .ref 0), (1, .int (iN (zw))), (2, .int (iN (zv)))]) (st1 := [.int (iN (-1))]) (kr1 := (78, 76)) (h1 := zh) rfl ?_
            refine wp_ret (rv := some (.int (iN (-1)))) rfl ?_
            refine ⟨fun y => ?_, fun _ => ⟨rfl, rfl⟩⟩
            obtain ⟨y1, y2, y3, y4⟩ := y
            by_cases y5 : zw = 0
            · rw [if_pos y5] at y4; omega
            · rw [if_neg y5] at y4; omega
