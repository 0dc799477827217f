/-! TEXTS THAT ARE READ: the class's clause -/
set_option maxRecDepth 20000 in
set_option maxHeartbeats 4000000 in
theorem jl_letters (zd : Nat) (q_d : 3 ≤ zd) {zh : am_H} {F : Int → Int} {zl : Int} {zi ze : Int} (q_l : zh.1 27 1 = iN zl) (q_r : 0 ≤ zl ∧ zl ≤ 120) (q_f : ∀ k : Int, 0 ≤ k → k < zl → zh.1 28 k.toNat = iN (F k)) (q_c : ∀ k : Int, 0 ≤ k → k < zl → 32 ≤ F k ∧ F k ≤ 126) {zQ : Option Value → am_H → Prop} (zk : ∀ zg : am_H, am_fr [27] zh zg → (∀ zs : Nat, zs ≠ 2 → zg.1 27 zs = zh.1 27 zs) → zg.1 27 2 = iN ze → am_wp zd am_m_Text_lookAtWord 55 [(0, .ref 27), (1, .int (iN (zi)))] [] (78, 76) zg (78, 76) zQ) : ∀ (z_n : Nat) (zg : am_H) (zp : Int) (q_fr : am_fr [27] zh zg) (q_s1 : ∀ zs : Nat, zs ≠ 2 → zg.1 27 zs = zh.1 27 zs) (q_p : zg.1 27 2 = iN zp) (q_i : 0 ≤ zp ∧ zp ≤ zl) (q_z : zWe F zl zp = ze), zl - zp < (z_n : Int) → am_wp zd am_m_Text_lookAtWord 5 [(0, .ref 27), (1, .int (iN (zi)))] [] (78, 76) zg (78, 76) zQ := by
  obtain ⟨zd, rfl⟩ : ∃ y_e, zd = y_e + 3 := ⟨zd - 3, by omega⟩
  intro z_n
  induction z_n with
  | zero => intro zg zp q_fr q_s1 q_p q_i q_z q_m; omega
  | succ z_n z_ih =>
    intro zg zp q_fr q_s1 q_p q_i q_z q_m
    refine wp_run (k := 4) (pc1 := 13) (l1 := [(0, .ref 27), (1, .int (iN (zi)))]) (st1 := [.int (iN (zl)), .int (iN (zp))]) (kr1 := (78, 76)) (h1 := zg) (Eq.trans (b := (some (13, [(0, .ref 27), (1, .int (iN (zi)))], [.int (zg.1 27 1), .int (zg.1 27 2)], (78, 76), zg) : Option am_C)) rfl (by simp only [q_p, (q_s1 1 (by decide)).trans q_l, Int32.ofInt_add, Int32.ofInt_sub, Int32.ofInt_mul, Int32.ofInt_neg])) ?_
    refine wp_ge (a := zp) (b := zl) rfl (by omega) (by omega) (fun b_13 => ?_) (fun b_13 => ?_)
    · have y_s2 := zSg_rg (i := zp) q_c
      have y_e : zWe F zl zp = zp := zWe_2 (by omega)
      rw [y_e] at q_z
      exact zk zg q_fr q_s1 (by rw [← q_z]; exact q_p)
    · have y_s := zSg_rg (i := zp) q_c
      refine wp_run (k := 3) (pc1 := 21) (l1 := [(0, .ref 27), (1, .int (iN (zi)))]) (st1 := [.int (iN (zp)), .ref 27]) (kr1 := (78, 76)) (h1 := zg) (Eq.trans (b := (some (21, [(0, .ref 27), (1, .int (iN (zi)))], [.int (zg.1 27 2), .ref 27], (78, 76), zg) : Option am_C)) rfl (by simp only [q_p, Int32.ofInt_add, Int32.ofInt_sub, Int32.ofInt_mul, Int32.ofInt_neg])) ?_
      refine wp_call (md1 := am_m_Text_signAt) (As := [.ref 27, .int (iN (zp))]) (rest := []) (kr1 := (78, 76)) rfl (jt_signAt _ (by omega) ((q_s1 1 (by decide)).trans q_l) q_r (zi := zp) (by omega) (fun k y1 y2 => (congrFun (q_fr.2 28 (by decide)) _).trans (q_f k y1 y2))) ?_
      rintro _ _ ⟨rfl, rfl⟩
      refine wp_run (k := 1) (pc1 := 26) (l1 := [(0, .ref 27), (1, .int (iN (zi)))]) (st1 := [.int (iN (97)), .int (iN (zSg F zl (zp)))]) (kr1 := (78, 76)) (h1 := zg) rfl ?_
      refine wp_lt (a := zSg F zl (zp)) (b := 97) rfl (by omega) (by omega) (fun b_26 => ?_) (fun b_26 => ?_)
      · have y_s2 := zSg_rg (i := zp) q_c
        have y_e : zWe F zl zp = zp := zWe_2 (by omega)
        rw [y_e] at q_z
        exact zk zg q_fr q_s1 (by rw [← q_z]; exact q_p)
      · refine wp_run (k := 3) (pc1 := 34) (l1 := [(0, .ref 27), (1, .int (iN (zi)))]) (st1 := [.int (iN (zp)), .ref 27]) (kr1 := (78, 76)) (h1 := zg) (Eq.trans (b := (some (34, [(0, .ref 27), (1, .int (iN (zi)))], [.int (zg.1 27 2), .ref 27], (78, 76), zg) : Option am_C)) rfl (by simp only [q_p, Int32.ofInt_add, Int32.ofInt_sub, Int32.ofInt_mul, Int32.ofInt_neg])) ?_
        refine wp_call (md1 := am_m_Text_signAt) (As := [.ref 27, .int (iN (zp))]) (rest := []) (kr1 := (78, 76)) rfl (jt_signAt _ (by omega) ((q_s1 1 (by decide)).trans q_l) q_r (zi := zp) (by omega) (fun k y1 y2 => (congrFun (q_fr.2 28 (by decide)) _).trans (q_f k y1 y2))) ?_
        rintro _ _ ⟨rfl, rfl⟩
        refine wp_run (k := 1) (pc1 := 39) (l1 := [(0, .ref 27), (1, .int (iN (zi)))]) (st1 := [.int (iN (122)), .int (iN (zSg F zl (zp)))]) (kr1 := (78, 76)) (h1 := zg) rfl ?_
        refine wp_gt (a := zSg F zl (zp)) (b := 122) rfl (by omega) (by omega) (fun b_39 => ?_) (fun b_39 => ?_)
        · have y_s2 := zSg_rg (i := zp) q_c
          have y_e : zWe F zl zp = zp := zWe_2 (by omega)
          rw [y_e] at q_z
          exact zk zg q_fr q_s1 (by rw [← q_z]; exact q_p)
        · refine wp_run (k := 5) (pc1 := 49) (l1 := [(0, .ref 27), (1, .int (iN (zi)))]) (st1 := [.int (iN ((zp) + (1))), .ref 27]) (kr1 := (78, 76)) (h1 := zg) (Eq.trans (b := (some (49, [(0, .ref 27), (1, .int (iN (zi)))], [.int ((zg.1 27 2) + (iN (1))), .ref 27], (78, 76), zg) : Option am_C)) rfl (by simp only [q_p, Int32.ofInt_add, Int32.ofInt_sub, Int32.ofInt_mul, Int32.ofInt_neg])) ?_
          refine wp_run (k := 2) (pc1 := 5) (l1 := [(0, .ref 27), (1, .int (iN (zi)))]) (st1 := []) (kr1 := (78, 76)) (h1 := am_wr zg 27 2 (iN ((zp) + (1)))) rfl ?_
          exact z_ih (am_wr zg 27 2 (iN ((zp) + (1)))) (zp + 1) (am_fr_w q_fr (by decide) _ _) (fun zs y => (am_wr_no y).trans (q_s1 zs y)) am_wr_at (by omega) (by rw [← q_z]; exact (zWe_1 (by omega)).symm) (by omega)
set_option maxRecDepth 20000 in
set_option maxHeartbeats 4000000 in
theorem jt_word (zd : Nat) (q_d : 5 ≤ zd) {zh : am_H} {F : Int → Int} {zl : Int} {zi : Int} (q_l : zh.1 27 1 = iN zl) (q_r : 0 ≤ zl ∧ zl ≤ 120) (q_f : ∀ k : Int, 0 ≤ k → k < zl → zh.1 28 k.toNat = iN (F k)) (q_c : ∀ k : Int, 0 ≤ k → k < zl → 32 ≤ F k ∧ F k ≤ 126) (q_p : zh.1 27 2 = iN zi) (q_i : 0 ≤ zi ∧ zi ≤ zl) : am_wp zd am_m_Text_lookAtWord 0 [(0, .ref 27)] [] (78, 76) zh (78, 76) (fun rv h' => rv = some (.int (iN (bI (0 ≤ zWw F zi (zWe F zl zi)) inferInstance))) ∧ am_fr [27] zh h' ∧ (∀ zs : Nat, zs ≠ 2 → zs ≠ 3 → h'.1 27 zs = zh.1 27 zs) ∧ (0 ≤ zWw F zi (zWe F zl zi) → h'.1 27 2 = iN (zWe F zl zi) ∧ h'.1 27 3 = iN (zWw F zi (zWe F zl zi))) ∧ (zWw F zi (zWe F zl zi) < 0 → h'.1 27 2 = iN zi)) := by
  obtain ⟨zd, rfl⟩ : ∃ y_e, zd = y_e + 5 := ⟨zd - 5, by omega⟩
  refine wp_run (k := 3) (pc1 := 5) (l1 := [(0, .ref 27), (1, .int (iN (zi)))]) (st1 := []) (kr1 := (78, 76)) (h1 := zh) (Eq.trans (b := (some (5, [(0, .ref 27), (1, .int (zh.1 27 2))], [], (78, 76), zh) : Option am_C)) rfl (by simp only [q_p, Int32.ofInt_add, Int32.ofInt_sub, Int32.ofInt_mul, Int32.ofInt_neg])) ?_
  refine jl_letters (zh := zh) (zi := zi) (ze := zWe F zl zi) _ (by omega) q_l q_r q_f q_c ?_ 130 zh zi (am_fr_0 _ _) (fun _ _ => rfl) q_p (by omega) rfl (by omega)
  intro zg q_fr q_s1 q_p1
  have y_e := zWe_rg (F := F) (L := zl) (i := zi) q_i.2
  refine wp_run (k := 2) (pc1 := 57) (l1 := [(0, .ref 27), (1, .int (iN (zi))), (2, .int (iN (0)))]) (st1 := []) (kr1 := (78, 76)) (h1 := zg) rfl ?_
  refine wp_run (k := 2) (pc1 := 60) (l1 := [(0, .ref 27), (1, .int (iN (zi))), (2, .int (iN (0)))]) (st1 := [.int (iN (6)), .int (iN (0))]) (kr1 := (78, 76)) (h1 := zg) rfl ?_
  refine wp_ge (a := 0) (b := 6) rfl (by omega) (by omega) (fun b_60 => ?_) (fun b_60 => ?_)
  · exact absurd b_60 (by decide)
  · refine wp_run (k := 3) (pc1 := 66) (l1 := [(0, .ref 27), (1, .int (iN (zi))), (2, .int (iN (0)))]) (st1 := [.int (iN (0)), .ref 27, .ref 27]) (kr1 := (78, 76)) (h1 := zg) rfl ?_
    refine wp_call (md1 := am_m_Text_wordOf) (As := [.ref 27, .int (iN (0))]) (rest := [.ref 27]) (kr1 := (78, 76)) rfl (jt_wordOf_0 _) ?_
    rintro _ _ ⟨rfl, rfl⟩
    refine wp_run (k := 3) (pc1 := 74) (l1 := [(0, .ref 27), (1, .int (iN (zi))), (2, .int (iN (0)))]) (st1 := [.int (iN (zWe F zl zi)), .int (iN (zi)), .ref 1000, .ref 27]) (kr1 := (78, 76)) (h1 := zg) (Eq.trans (b := (some (74, [(0, .ref 27), (1, .int (iN (zi))), (2, .int (iN (0)))], [.int (zg.1 27 2), .int (iN (zi)), .ref 1000, .ref 27], (78, 76), zg) : Option am_C)) rfl (by simp only [q_p1, Int32.ofInt_add, Int32.ofInt_sub, Int32.ofInt_mul, Int32.ofInt_neg])) ?_
    refine wp_call (md1 := am_m_Text_stands) (As := [.ref 27, .ref 1000, .int (iN (zi)), .int (iN (zWe F zl zi))]) (rest := []) (kr1 := (78, 76)) rfl (jt_stands_0 _ (by omega) ((q_s1 1 (by decide)).trans q_l) q_r (fun k y1 y2 => (congrFun (q_fr.2 28 (by decide)) _).trans (q_f k y1 y2)) q_c (zi := zi) (zj := zWe F zl zi) (by omega)) ?_
    rintro _ _ ⟨rfl, rfl⟩
    refine wp_neb rfl (fun b_77 => ?_) (fun b_77 => ?_)
    · refine wp_run (k := 4) (pc1 := 89) (l1 := [(0, .ref 27), (1, .int (iN (zi))), (2, .int (iN (0)))]) (st1 := [.int (iN (1))]) (kr1 := (78, 76)) (h1 := am_wr zg 27 3 (iN (0))) rfl ?_
      refine wp_ret (rv := some (.int (iN (1)))) rfl ?_
      have y_w : zWw F zi (zWe F zl zi) = 0 := by unfold zWw; rw [if_pos b_77]
      exact ⟨by rw [show bI (0 ≤ zWw F zi (zWe F zl zi)) inferInstance = 1 from if_pos (by omega)], am_fr_w q_fr (by decide) _ _, fun zs y1 y2 => (am_wr_no y2).trans (q_s1 zs y1), fun _ => ⟨(am_wr_no (by decide)).trans q_p1, by rw [am_wr_at, y_w]⟩, fun y => by omega⟩
    · refine wp_run (k := 3) (pc1 := 57) (l1 := [(0, .ref 27), (1, .int (iN (zi))), (2, .int (iN ((0) + 1)))]) (st1 := []) (kr1 := (78, 76)) (h1 := zg) (Eq.trans (b := (some (57, [(0, .ref 27), (1, .int (iN (zi))), (2, .int ((iN (0)) + iN (1)))], [], (78, 76), zg) : Option am_C)) rfl (by simp only [Int32.ofInt_add, Int32.ofInt_sub, Int32.ofInt_mul, Int32.ofInt_neg])) ?_
      rw [show (0) + 1 = (1 : Int) from by decide]
      refine wp_run (k := 2) (pc1 := 60) (l1 := [(0, .ref 27), (1, .int (iN (zi))), (2, .int (iN (1)))]) (st1 := [.int (iN (6)), .int (iN (1))]) (kr1 := (78, 76)) (h1 := zg) rfl ?_
      refine wp_ge (a := 1) (b := 6) rfl (by omega) (by omega) (fun b_60_3 => ?_) (fun b_60_3 => ?_)
      · exact absurd b_60_3 (by decide)
      · refine wp_run (k := 3) (pc1 := 66) (l1 := [(0, .ref 27), (1, .int (iN (zi))), (2, .int (iN (1)))]) (st1 := [.int (iN (1)), .ref 27, .ref 27]) (kr1 := (78, 76)) (h1 := zg) rfl ?_
        refine wp_call (md1 := am_m_Text_wordOf) (As := [.ref 27, .int (iN (1))]) (rest := [.ref 27]) (kr1 := (78, 76)) rfl (jt_wordOf_1 _) ?_
        rintro _ _ ⟨rfl, rfl⟩
        refine wp_run (k := 3) (pc1 := 74) (l1 := [(0, .ref 27), (1, .int (iN (zi))), (2, .int (iN (1)))]) (st1 := [.int (iN (zWe F zl zi)), .int (iN (zi)), .ref 1001, .ref 27]) (kr1 := (78, 76)) (h1 := zg) (Eq.trans (b := (some (74, [(0, .ref 27), (1, .int (iN (zi))), (2, .int (iN (1)))], [.int (zg.1 27 2), .int (iN (zi)), .ref 1001, .ref 27], (78, 76), zg) : Option am_C)) rfl (by simp only [q_p1, Int32.ofInt_add, Int32.ofInt_sub, Int32.ofInt_mul, Int32.ofInt_neg])) ?_
        refine wp_call (md1 := am_m_Text_stands) (As := [.ref 27, .ref 1001, .int (iN (zi)), .int (iN (zWe F zl zi))]) (rest := []) (kr1 := (78, 76)) rfl (jt_stands_1 _ (by omega) ((q_s1 1 (by decide)).trans q_l) q_r (fun k y1 y2 => (congrFun (q_fr.2 28 (by decide)) _).trans (q_f k y1 y2)) q_c (zi := zi) (zj := zWe F zl zi) (by omega)) ?_
        rintro _ _ ⟨rfl, rfl⟩
        refine wp_neb rfl (fun b_77_4 => ?_) (fun b_77_4 => ?_)
        · refine wp_run (k := 4) (pc1 := 89) (l1 := [(0, .ref 27), (1, .int (iN (zi))), (2, .int (iN (1)))]) (st1 := [.int (iN (1))]) (kr1 := (78, 76)) (h1 := am_wr zg 27 3 (iN (1))) rfl ?_
          refine wp_ret (rv := some (.int (iN (1)))) rfl ?_
          have y_w : zWw F zi (zWe F zl zi) = 1 := by unfold zWw; rw [if_neg b_77, if_pos b_77_4]
          exact ⟨by rw [show bI (0 ≤ zWw F zi (zWe F zl zi)) inferInstance = 1 from if_pos (by omega)], am_fr_w q_fr (by decide) _ _, fun zs y1 y2 => (am_wr_no y2).trans (q_s1 zs y1), fun _ => ⟨(am_wr_no (by decide)).trans q_p1, by rw [am_wr_at, y_w]⟩, fun y => by omega⟩
        · refine wp_run (k := 3) (pc1 := 57) (l1 := [(0, .ref 27), (1, .int (iN (zi))), (2, .int (iN ((1) + 1)))]) (st1 := []) (kr1 := (78, 76)) (h1 := zg) (Eq.trans (b := (some (57, [(0, .ref 27), (1, .int (iN (zi))), (2, .int ((iN (1)) + iN (1)))], [], (78, 76), zg) : Option am_C)) rfl (by simp only [Int32.ofInt_add, Int32.ofInt_sub, Int32.ofInt_mul, Int32.ofInt_neg])) ?_
          rw [show (1) + 1 = (2 : Int) from by decide]
          refine wp_run (k := 2) (pc1 := 60) (l1 := [(0, .ref 27), (1, .int (iN (zi))), (2, .int (iN (2)))]) (st1 := [.int (iN (6)), .int (iN (2))]) (kr1 := (78, 76)) (h1 := zg) rfl ?_
          refine wp_ge (a := 2) (b := 6) rfl (by omega) (by omega) (fun b_60_5 => ?_) (fun b_60_5 => ?_)
          · exact absurd b_60_5 (by decide)
          · refine wp_run (k := 3) (pc1 := 66) (l1 := [(0, .ref 27), (1, .int (iN (zi))), (2, .int (iN (2)))]) (st1 := [.int (iN (2)), .ref 27, .ref 27]) (kr1 := (78, 76)) (h1 := zg) rfl ?_
            refine wp_call (md1 := am_m_Text_wordOf) (As := [.ref 27, .int (iN (2))]) (rest := [.ref 27]) (kr1 := (78, 76)) rfl (jt_wordOf_2 _) ?_
            rintro _ _ ⟨rfl, rfl⟩
            refine wp_run (k := 3) (pc1 := 74) (l1 := [(0, .ref 27), (1, .int (iN (zi))), (2, .int (iN (2)))]) (st1 := [.int (iN (zWe F zl zi)), .int (iN (zi)), .ref 1002, .ref 27]) (kr1 := (78, 76)) (h1 := zg) (Eq.trans (b := (some (74, [(0, .ref 27), (1, .int (iN (zi))), (2, .int (iN (2)))], [.int (zg.1 27 2), .int (iN (zi)), .ref 1002, .ref 27], (78, 76), zg) : Option am_C)) rfl (by simp only [q_p1, Int32.ofInt_add, Int32.ofInt_sub, Int32.ofInt_mul, Int32.ofInt_neg])) ?_
            refine wp_call (md1 := am_m_Text_stands) (As := [.ref 27, .ref 1002, .int (iN (zi)), .int (iN (zWe F zl zi))]) (rest := []) (kr1 := (78, 76)) rfl (jt_stands_2 _ (by omega) ((q_s1 1 (by decide)).trans q_l) q_r (fun k y1 y2 => (congrFun (q_fr.2 28 (by decide)) _).trans (q_f k y1 y2)) q_c (zi := zi) (zj := zWe F zl zi) (by omega)) ?_
            rintro _ _ ⟨rfl, rfl⟩
            refine wp_neb rfl (fun b_77_6 => ?_) (fun b_77_6 => ?_)
            · refine wp_run (k := 4) (pc1 := 89) (l1 := [(0, .ref 27), (1, .int (iN (zi))), (2, .int (iN (2)))]) (st1 := [.int (iN (1))]) (kr1 := (78, 76)) (h1 := am_wr zg 27 3 (iN (2))) rfl ?_
              refine wp_ret (rv := some (.int (iN (1)))) rfl ?_
              have y_w : zWw F zi (zWe F zl zi) = 2 := by unfold zWw; rw [if_neg b_77, if_neg b_77_4, if_pos b_77_6]
              exact ⟨by rw [show bI (0 ≤ zWw F zi (zWe F zl zi)) inferInstance = 1 from if_pos (by omega)], am_fr_w q_fr (by decide) _ _, fun zs y1 y2 => (am_wr_no y2).trans (q_s1 zs y1), fun _ => ⟨(am_wr_no (by decide)).trans q_p1, by rw [am_wr_at, y_w]⟩, fun y => by omega⟩
            · refine wp_run (k := 3) (pc1 := 57) (l1 := [(0, .ref 27), (1, .int (iN (zi))), (2, .int (iN ((2) + 1)))]) (st1 := []) (kr1 := (78, 76)) (h1 := zg) (Eq.trans (b := (some (57, [(0, .ref 27), (1, .int (iN (zi))), (2, .int ((iN (2)) + iN (1)))], [], (78, 76), zg) : Option am_C)) rfl (by simp only [Int32.ofInt_add, Int32.ofInt_sub, Int32.ofInt_mul, Int32.ofInt_neg])) ?_
              rw [show (2) + 1 = (3 : Int) from by decide]
              refine wp_run (k := 2) (pc1 := 60) (l1 := [(0, .ref 27), (1, .int (iN (zi))), (2, .int (iN (3)))]) (st1 := [.int (iN (6)), .int (iN (3))]) (kr1 := (78, 76)) (h1 := zg) rfl ?_
              refine wp_ge (a := 3) (b := 6) rfl (by omega) (by omega) (fun b_60_7 => ?_) (fun b_60_7 => ?_)
              · exact absurd b_60_7 (by decide)
              · refine wp_run (k := 3) (pc1 := 66) (l1 := [(0, .ref 27), (1, .int (iN (zi))), (2, .int (iN (3)))]) (st1 := [.int (iN (3)), .ref 27, .ref 27]) (kr1 := (78, 76)) (h1 := zg) rfl ?_
                refine wp_call (md1 := am_m_Text_wordOf) (As := [.ref 27, .int (iN (3))]) (rest := [.ref 27]) (kr1 := (78, 76)) rfl (jt_wordOf_3 _) ?_
                rintro _ _ ⟨rfl, rfl⟩
                refine wp_run (k := 3) (pc1 := 74) (l1 := [(0, .ref 27), (1, .int (iN (zi))), (2, .int (iN (3)))]) (st1 := [.int (iN (zWe F zl zi)), .int (iN (zi)), .ref 1003, .ref 27]) (kr1 := (78, 76)) (h1 := zg) (Eq.trans (b := (some (74, [(0, .ref 27), (1, .int (iN (zi))), (2, .int (iN (3)))], [.int (zg.1 27 2), .int (iN (zi)), .ref 1003, .ref 27], (78, 76), zg) : Option am_C)) rfl (by simp only [q_p1, Int32.ofInt_add, Int32.ofInt_sub, Int32.ofInt_mul, Int32.ofInt_neg])) ?_
                refine wp_call (md1 := am_m_Text_stands) (As := [.ref 27, .ref 1003, .int (iN (zi)), .int (iN (zWe F zl zi))]) (rest := []) (kr1 := (78, 76)) rfl (jt_stands_3 _ (by omega) ((q_s1 1 (by decide)).trans q_l) q_r (fun k y1 y2 => (congrFun (q_fr.2 28 (by decide)) _).trans (q_f k y1 y2)) q_c (zi := zi) (zj := zWe F zl zi) (by omega)) ?_
                rintro _ _ ⟨rfl, rfl⟩
                refine wp_neb rfl (fun b_77_8 => ?_) (fun b_77_8 => ?_)
                · refine wp_run (k := 4) (pc1 := 89) (l1 := [(0, .ref 27), (1, .int (iN (zi))), (2, .int (iN (3)))]) (st1 := [.int (iN (1))]) (kr1 := (78, 76)) (h1 := am_wr zg 27 3 (iN (3))) rfl ?_
                  refine wp_ret (rv := some (.int (iN (1)))) rfl ?_
                  have y_w : zWw F zi (zWe F zl zi) = 3 := by unfold zWw; rw [if_neg b_77, if_neg b_77_4, if_neg b_77_6, if_pos b_77_8]
                  exact ⟨by rw [show bI (0 ≤ zWw F zi (zWe F zl zi)) inferInstance = 1 from if_pos (by omega)], am_fr_w q_fr (by decide) _ _, fun zs y1 y2 => (am_wr_no y2).trans (q_s1 zs y1), fun _ => ⟨(am_wr_no (by decide)).trans q_p1, by rw [am_wr_at, y_w]⟩, fun y => by omega⟩
                · refine wp_run (k := 3) (pc1 := 57) (l1 := [(0, .ref 27), (1, .int (iN (zi))), (2, .int (iN ((3) + 1)))]) (st1 := []) (kr1 := (78, 76)) (h1 := zg) (Eq.trans (b := (some (57, [(0, .ref 27), (1, .int (iN (zi))), (2, .int ((iN (3)) + iN (1)))], [], (78, 76), zg) : Option am_C)) rfl (by simp only [Int32.ofInt_add, Int32.ofInt_sub, Int32.ofInt_mul, Int32.ofInt_neg])) ?_
                  rw [show (3) + 1 = (4 : Int) from by decide]
                  refine wp_run (k := 2) (pc1 := 60) (l1 := [(0, .ref 27), (1, .int (iN (zi))), (2, .int (iN (4)))]) (st1 := [.int (iN (6)), .int (iN (4))]) (kr1 := (78, 76)) (h1 := zg) rfl ?_
                  refine wp_ge (a := 4) (b := 6) rfl (by omega) (by omega) (fun b_60_9 => ?_) (fun b_60_9 => ?_)
                  · exact absurd b_60_9 (by decide)
                  · refine wp_run (k := 3) (pc1 := 66) (l1 := [(0, .ref 27), (1, .int (iN (zi))), (2, .int (iN (4)))]) (st1 := [.int (iN (4)), .ref 27, .ref 27]) (kr1 := (78, 76)) (h1 := zg) rfl ?_
                    refine wp_call (md1 := am_m_Text_wordOf) (As := [.ref 27, .int (iN (4))]) (rest := [.ref 27]) (kr1 := (78, 76)) rfl (jt_wordOf_4 _) ?_
                    rintro _ _ ⟨rfl, rfl⟩
                    refine wp_run (k := 3) (pc1 := 74) (l1 := [(0, .ref 27), (1, .int (iN (zi))), (2, .int (iN (4)))]) (st1 := [.int (iN (zWe F zl zi)), .int (iN (zi)), .ref 1004, .ref 27]) (kr1 := (78, 76)) (h1 := zg) (Eq.trans (b := (some (74, [(0, .ref 27), (1, .int (iN (zi))), (2, .int (iN (4)))], [.int (zg.1 27 2), .int (iN (zi)), .ref 1004, .ref 27], (78, 76), zg) : Option am_C)) rfl (by simp only [q_p1, Int32.ofInt_add, Int32.ofInt_sub, Int32.ofInt_mul, Int32.ofInt_neg])) ?_
                    refine wp_call (md1 := am_m_Text_stands) (As := [.ref 27, .ref 1004, .int (iN (zi)), .int (iN (zWe F zl zi))]) (rest := []) (kr1 := (78, 76)) rfl (jt_stands_4 _ (by omega) ((q_s1 1 (by decide)).trans q_l) q_r (fun k y1 y2 => (congrFun (q_fr.2 28 (by decide)) _).trans (q_f k y1 y2)) q_c (zi := zi) (zj := zWe F zl zi) (by omega)) ?_
                    rintro _ _ ⟨rfl, rfl⟩
                    refine wp_neb rfl (fun b_77_10 => ?_) (fun b_77_10 => ?_)
                    · refine wp_run (k := 4) (pc1 := 89) (l1 := [(0, .ref 27), (1, .int (iN (zi))), (2, .int (iN (4)))]) (st1 := [.int (iN (1))]) (kr1 := (78, 76)) (h1 := am_wr zg 27 3 (iN (4))) rfl ?_
                      refine wp_ret (rv := some (.int (iN (1)))) rfl ?_
                      have y_w : zWw F zi (zWe F zl zi) = 4 := by unfold zWw; rw [if_neg b_77, if_neg b_77_4, if_neg b_77_6, if_neg b_77_8, if_pos b_77_10]
                      exact ⟨by rw [show bI (0 ≤ zWw F zi (zWe F zl zi)) inferInstance = 1 from if_pos (by omega)], am_fr_w q_fr (by decide) _ _, fun zs y1 y2 => (am_wr_no y2).trans (q_s1 zs y1), fun _ => ⟨(am_wr_no (by decide)).trans q_p1, by rw [am_wr_at, y_w]⟩, fun y => by omega⟩
                    · refine wp_run (k := 3) (pc1 := 57) (l1 := [(0, .ref 27), (1, .int (iN (zi))), (2, .int (iN ((4) + 1)))]) (st1 := []) (kr1 := (78, 76)) (h1 := zg) (Eq.trans (b := (some (57, [(0, .ref 27), (1, .int (iN (zi))), (2, .int ((iN (4)) + iN (1)))], [], (78, 76), zg) : Option am_C)) rfl (by simp only [Int32.ofInt_add, Int32.ofInt_sub, Int32.ofInt_mul, Int32.ofInt_neg])) ?_
                      rw [show (4) + 1 = (5 : Int) from by decide]
                      refine wp_run (k := 2) (pc1 := 60) (l1 := [(0, .ref 27), (1, .int (iN (zi))), (2, .int (iN (5)))]) (st1 := [.int (iN (6)), .int (iN (5))]) (kr1 := (78, 76)) (h1 := zg) rfl ?_
                      refine wp_ge (a := 5) (b := 6) rfl (by omega) (by omega) (fun b_60_11 => ?_) (fun b_60_11 => ?_)
                      · exact absurd b_60_11 (by decide)
                      · refine wp_run (k := 3) (pc1 := 66) (l1 := [(0, .ref 27), (1, .int (iN (zi))), (2, .int (iN (5)))]) (st1 := [.int (iN (5)), .ref 27, .ref 27]) (kr1 := (78, 76)) (h1 := zg) rfl ?_
                        refine wp_call (md1 := am_m_Text_wordOf) (As := [.ref 27, .int (iN (5))]) (rest := [.ref 27]) (kr1 := (78, 76)) rfl (jt_wordOf_5 _) ?_
                        rintro _ _ ⟨rfl, rfl⟩
                        refine wp_run (k := 3) (pc1 := 74) (l1 := [(0, .ref 27), (1, .int (iN (zi))), (2, .int (iN (5)))]) (st1 := [.int (iN (zWe F zl zi)), .int (iN (zi)), .ref 1005, .ref 27]) (kr1 := (78, 76)) (h1 := zg) (Eq.trans (b := (some (74, [(0, .ref 27), (1, .int (iN (zi))), (2, .int (iN (5)))], [.int (zg.1 27 2), .int (iN (zi)), .ref 1005, .ref 27], (78, 76), zg) : Option am_C)) rfl (by simp only [q_p1, Int32.ofInt_add, Int32.ofInt_sub, Int32.ofInt_mul, Int32.ofInt_neg])) ?_
                        refine wp_call (md1 := am_m_Text_stands) (As := [.ref 27, .ref 1005, .int (iN (zi)), .int (iN (zWe F zl zi))]) (rest := []) (kr1 := (78, 76)) rfl (jt_stands_5 _ (by omega) ((q_s1 1 (by decide)).trans q_l) q_r (fun k y1 y2 => (congrFun (q_fr.2 28 (by decide)) _).trans (q_f k y1 y2)) q_c (zi := zi) (zj := zWe F zl zi) (by omega)) ?_
                        rintro _ _ ⟨rfl, rfl⟩
                        refine wp_neb rfl (fun b_77_12 => ?_) (fun b_77_12 => ?_)
                        · refine wp_run (k := 4) (pc1 := 89) (l1 := [(0, .ref 27), (1, .int (iN (zi))), (2, .int (iN (5)))]) (st1 := [.int (iN (1))]) (kr1 := (78, 76)) (h1 := am_wr zg 27 3 (iN (5))) rfl ?_
                          refine wp_ret (rv := some (.int (iN (1)))) rfl ?_
                          have y_w : zWw F zi (zWe F zl zi) = 5 := by unfold zWw; rw [if_neg b_77, if_neg b_77_4, if_neg b_77_6, if_neg b_77_8, if_neg b_77_10, if_pos b_77_12]
                          exact ⟨by rw [show bI (0 ≤ zWw F zi (zWe F zl zi)) inferInstance = 1 from if_pos (by omega)], am_fr_w q_fr (by decide) _ _, fun zs y1 y2 => (am_wr_no y2).trans (q_s1 zs y1), fun _ => ⟨(am_wr_no (by decide)).trans q_p1, by rw [am_wr_at, y_w]⟩, fun y => by omega⟩
                        · refine wp_run (k := 3) (pc1 := 57) (l1 := [(0, .ref 27), (1, .int (iN (zi))), (2, .int (iN ((5) + 1)))]) (st1 := []) (kr1 := (78, 76)) (h1 := zg) (Eq.trans (b := (some (57, [(0, .ref 27), (1, .int (iN (zi))), (2, .int ((iN (5)) + iN (1)))], [], (78, 76), zg) : Option am_C)) rfl (by simp only [Int32.ofInt_add, Int32.ofInt_sub, Int32.ofInt_mul, Int32.ofInt_neg])) ?_
                          rw [show (5) + 1 = (6 : Int) from by decide]
                          refine wp_run (k := 2) (pc1 := 60) (l1 := [(0, .ref 27), (1, .int (iN (zi))), (2, .int (iN (6)))]) (st1 := [.int (iN (6)), .int (iN (6))]) (kr1 := (78, 76)) (h1 := zg) rfl ?_
                          refine wp_ge (a := 6) (b := 6) rfl (by omega) (by omega) (fun b_60_13 => ?_) (fun b_60_13 => ?_)
                          · refine wp_run (k := 4) (pc1 := 102) (l1 := [(0, .ref 27), (1, .int (iN (zi))), (2, .int (iN (6)))]) (st1 := [.int (iN (0))]) (kr1 := (78, 76)) (h1 := am_wr zg 27 2 (iN (zi))) rfl ?_
                            refine wp_ret (rv := some (.int (iN (0)))) rfl ?_
                            have y_w : zWw F zi (zWe F zl zi) = -1 := by unfold zWw; rw [if_neg b_77, if_neg b_77_4, if_neg b_77_6, if_neg b_77_8, if_neg b_77_10, if_neg b_77_12]
                            exact ⟨by rw [show bI (0 ≤ zWw F zi (zWe F zl zi)) inferInstance = 0 from if_neg (by omega)], am_fr_w q_fr (by decide) _ _, fun zs y1 y2 => (am_wr_no y1).trans (q_s1 zs y1), fun y => by omega, fun _ => am_wr_at⟩
                          · exact absurd b_60_13 (by decide)
set_option maxRecDepth 20000 in
set_option maxHeartbeats 4000000 in
theorem jt_lperiod (zd : Nat) (q_d : 3 ≤ zd) {zh : am_H} {F : Int → Int} {zl : Int} {N : Int} {G : Int → Int → Int} {S T : Int} {zi : Int} (q_l : zh.1 27 1 = iN zl) (q_r : 0 ≤ zl ∧ zl ≤ 120) (q_f : ∀ k : Int, 0 ≤ k → k < zl → zh.1 28 k.toNat = iN (F k)) (q_c : ∀ k : Int, 0 ≤ k → k < zl → 32 ≤ F k ∧ F k ≤ 126) (q_p : zh.1 27 2 = iN zi) (q_i : 0 ≤ zi ∧ zi ≤ zl) (q_nm : zNm (zh.1 34) (zh.1 35) N G S T) (q_g : zGk N G S T) : am_wp zd am_m_Text_lookAtPeriod 0 [(0, .ref 27), (1, .ref 34)] [] (78, 76) zh (78, 76) (fun rv h' => rv = some (.int (iN (bI ((zPd F zl N zi).1 = 1) inferInstance))) ∧ am_fr [27] zh h' ∧ (∀ zs : Nat, zs ≠ 2 → zs ≠ 4 → h'.1 27 zs = zh.1 27 zs) ∧ h'.1 27 2 = iN (zPd F zl N zi).2.2 ∧ ((zPd F zl N zi).1 = 1 → h'.1 27 4 = iN (zPd F zl N zi).2.1)) := by
  obtain ⟨zd, rfl⟩ : ∃ y_e, zd = y_e + 3 := ⟨zd - 3, by omega⟩
  have q_N := q_g.1
  have y_s := zSg_rg (i := zi) q_c
  refine wp_run (k := 3) (pc1 := 5) (l1 := [(0, .ref 27), (1, .ref 34)]) (st1 := [.int (iN (zi)), .ref 27]) (kr1 := (78, 76)) (h1 := zh) (Eq.trans (b := (some (5, [(0, .ref 27), (1, .ref 34)], [.int (zh.1 27 2), .ref 27], (78, 76), zh) : Option am_C)) rfl (by simp only [q_p, Int32.ofInt_add, Int32.ofInt_sub, Int32.ofInt_mul, Int32.ofInt_neg])) ?_
  refine wp_call (md1 := am_m_Text_signAt) (As := [.ref 27, .int (iN (zi))]) (rest := []) (kr1 := (78, 76)) rfl (jt_signAt _ (by omega) q_l q_r (zi := zi) (by omega) q_f) ?_
  rintro _ _ ⟨rfl, rfl⟩
  refine wp_run (k := 1) (pc1 := 10) (l1 := [(0, .ref 27), (1, .ref 34)]) (st1 := [.int (iN (42)), .int (iN (zSg F zl (zi)))]) (kr1 := (78, 76)) (h1 := zh) rfl ?_
  refine wp_ne (a := zSg F zl (zi)) (b := 42) rfl (by omega) (by omega) (fun b_10 => ?_) (fun b_10 => ?_)
  · refine wp_run (k := 6) (pc1 := 38) (l1 := [(0, .ref 27), (1, .ref 34), (2, .int (iN (zi)))]) (st1 := [.int (iN (2)), .ref 27, .ref 27]) (kr1 := (78, 76)) (h1 := zh) (Eq.trans (b := (some (38, [(0, .ref 27), (1, .ref 34), (2, .int (zh.1 27 2))], [.int (iN (2)), .ref 27, .ref 27], (78, 76), zh) : Option am_C)) rfl (by simp only [q_p, Int32.ofInt_add, Int32.ofInt_sub, Int32.ofInt_mul, Int32.ofInt_neg])) ?_
    refine wp_call (md1 := am_m_Text_figures) (As := [.ref 27, .int (iN (2))]) (rest := [.ref 27]) (kr1 := (78, 76)) rfl (jt_figures2 _ (by omega) q_l q_r q_f q_c q_p q_i) ?_
    rintro _ zg1 ⟨rfl, q_f1, q_s1, q_p1⟩
    have y_g := zFg_rg (F := F) (L := zl) 2 zi 0 (Int.le_refl _)
    have y_b := zFg_b2 (F := F) (L := zl) zi 0 (Int.le_refl _)
    obtain ⟨zv, y_v, y_v1, y_v2⟩ : ∃ zv : Int, (if zi < (zFg F zl 2 zi 0).1 then (zFg F zl 2 zi 0).2 else -1) = zv ∧ (zi < (zFg F zl 2 zi 0).1 → zv = (zFg F zl 2 zi 0).2) ∧ (¬ zi < (zFg F zl 2 zi 0).1 → zv = -1) := ⟨_, rfl, fun y => if_pos y, fun y => if_neg y⟩
    rw [y_v]
    refine wp_run (k := 4) (pc1 := 49) (l1 := [(0, .ref 27), (1, .ref 34), (2, .int (iN (zi)))]) (st1 := [.int (iN (zv)), .ref 34]) (kr1 := (78, 76)) (h1 := am_wr zg1 27 4 (iN (zv))) (Eq.trans (b := (some (49, [(0, .ref 27), (1, .ref 34), (2, .int (iN (zi)))], [.int ((am_wr zg1 27 4 (iN (zv))).1 27 4), .ref 34], (78, 76), am_wr zg1 27 4 (iN (zv))) : Option am_C)) rfl (by simp only [(show (am_wr zg1 27 4 (iN (zv))).1 27 4 = iN zv from am_wr_at)]; try simp only [Int32.ofInt_add, Int32.ofInt_sub, Int32.ofInt_mul, Int32.ofInt_neg])) ?_
    refine wp_call (md1 := am_m_Numbers_has) (As := [.ref 34, .int (iN (zv))]) (rest := []) (kr1 := (78, 76)) rfl (jt_has_34 _ (by omega) (zNm_f (ks := [27]) (am_fr_w q_f1 (by decide) 4 (iN zv)) q_nm (by decide) (by decide)) q_g (zp := zv) (by omega)) ?_
    rintro _ _ ⟨rfl, rfl⟩
    refine wp_eqb rfl (fun b_52 => ?_) (fun b_52 => ?_)
    · refine wp_run (k := 4) (pc1 := 63) (l1 := [(0, .ref 27), (1, .ref 34), (2, .int (iN (zi)))]) (st1 := [.int (iN (0))]) (kr1 := (78, 76)) (h1 := am_wr (am_wr zg1 27 4 (iN (zv))) 27 2 (iN (zi))) rfl ?_
      refine wp_ret (rv := some (.int (iN (0)))) rfl ?_
      have y_P : zPd F zl N zi = (0, 0, zi) := (if_neg (by omega)).trans (if_neg (by omega))
      rw [y_P]
      exact ⟨rfl, am_fr_w (am_fr_w q_f1 (by decide) _ _) (by decide) _ _, fun zs y1 y2 => (am_wr_no y1).trans ((am_wr_no y2).trans (q_s1 zs y1)), am_wr_at, fun y => absurd (show (0 : Int) = 1 from y) (by decide)⟩
    · refine wp_run (k := 1) (pc1 := 56) (l1 := [(0, .ref 27), (1, .ref 34), (2, .int (iN (zi)))]) (st1 := [.int (iN (1))]) (kr1 := (78, 76)) (h1 := am_wr zg1 27 4 (iN (zv))) rfl ?_
      refine wp_ret (rv := some (.int (iN (1)))) rfl ?_
      have y_P : zPd F zl N zi = (1, (zFg F zl 2 zi 0).2, (zFg F zl 2 zi 0).1) := (if_neg (by omega)).trans (if_pos (by omega))
      rw [y_P]
      exact ⟨rfl, am_fr_w q_f1 (by decide) _ _, fun zs y1 y2 => (am_wr_no y2).trans (q_s1 zs y1), (am_wr_no (by decide)).trans q_p1, fun _ => by rw [am_wr_at]; exact congrArg iN (by dsimp only; omega)⟩
  · refine wp_run (k := 8) (pc1 := 25) (l1 := [(0, .ref 27), (1, .ref 34)]) (st1 := [.int (iN ((zi) + (1))), .ref 27]) (kr1 := (78, 76)) (h1 := am_wr zh 27 4 (iN (-1))) (Eq.trans (b := (some (25, [(0, .ref 27), (1, .ref 34)], [.int (((am_wr zh 27 4 (iN (-1))).1 27 2) + (iN (1))), .ref 27], (78, 76), am_wr zh 27 4 (iN (-1))) : Option am_C)) rfl (by simp only [(show (am_wr zh 27 4 (iN (-1))).1 27 2 = iN zi from (am_wr_no (by decide)).trans q_p)]; try simp only [Int32.ofInt_add, Int32.ofInt_sub, Int32.ofInt_mul, Int32.ofInt_neg])) ?_
    refine wp_run (k := 2) (pc1 := 29) (l1 := [(0, .ref 27), (1, .ref 34)]) (st1 := [.int (iN (1))]) (kr1 := (78, 76)) (h1 := am_wr (am_wr zh 27 4 (iN (-1))) 27 2 (iN ((zi) + (1)))) rfl ?_
    refine wp_ret (rv := some (.int (iN (1)))) rfl ?_
    have y_P : zPd F zl N zi = (1, -1, zi + 1) := if_pos (by omega)
    rw [y_P]
    exact ⟨rfl, am_fr_w (am_fr_w (am_fr_0 _ _) (by decide) _ _) (by decide) _ _, fun zs y1 y2 => (am_wr_no y1).trans (am_wr_no y2), am_wr_at, fun _ => (am_wr_no (by decide)).trans am_wr_at⟩
set_option maxRecDepth 20000 in
set_option maxHeartbeats 4000000 in
theorem jt_lnumber (zd : Nat) (q_d : 3 ≤ zd) {zh : am_H} {F : Int → Int} {zl : Int} {zi zw : Int} (q_l : zh.1 27 1 = iN zl) (q_r : 0 ≤ zl ∧ zl ≤ 120) (q_f : ∀ k : Int, 0 ≤ k → k < zl → zh.1 28 k.toNat = iN (F k)) (q_c : ∀ k : Int, 0 ≤ k → k < zl → 32 ≤ F k ∧ F k ≤ 126) (q_p : zh.1 27 2 = iN zi) (q_i : 0 ≤ zi ∧ zi ≤ zl) (q_w3 : zh.1 27 3 = iN zw) (q_w : 0 ≤ zw ∧ zw < 6) : am_wp zd am_m_Text_lookAtNumber 0 [(0, .ref 27)] [] (78, 76) zh (78, 76) (fun rv h' => rv = some (.int (iN (bI ((zNu F zl zw zi).1 = 1) inferInstance))) ∧ am_fr [27] zh h' ∧ (∀ zs : Nat, zs ≠ 2 → zs ≠ 5 → h'.1 27 zs = zh.1 27 zs) ∧ h'.1 27 2 = iN (zNu F zl zw zi).2.2 ∧ ((zNu F zl zw zi).1 = 1 → h'.1 27 5 = iN (zNu F zl zw zi).2.1)) := by
  obtain ⟨zd, rfl⟩ : ∃ y_e, zd = y_e + 3 := ⟨zd - 3, by omega⟩
  refine wp_run (k := 6) (pc1 := 8) (l1 := [(0, .ref 27), (1, .int (iN (zi)))]) (st1 := [.int (iN (3)), .ref 27, .ref 27]) (kr1 := (78, 76)) (h1 := zh) (Eq.trans (b := (some (8, [(0, .ref 27), (1, .int (zh.1 27 2))], [.int (iN (3)), .ref 27, .ref 27], (78, 76), zh) : Option am_C)) rfl (by simp only [q_p, Int32.ofInt_add, Int32.ofInt_sub, Int32.ofInt_mul, Int32.ofInt_neg])) ?_
  refine wp_call (md1 := am_m_Text_figures) (As := [.ref 27, .int (iN (3))]) (rest := [.ref 27]) (kr1 := (78, 76)) rfl (jt_figures3 _ (by omega) q_l q_r q_f q_c q_p q_i) ?_
  rintro _ zg1 ⟨rfl, q_f1, q_s1, q_p1⟩
  have y_g := zFg_rg (F := F) (L := zl) 3 zi 0 (Int.le_refl _)
  have y_b := zFg_b3 (F := F) (L := zl) zi 0 (Int.le_refl _)
  obtain ⟨zv, y_v, y_v1, y_v2⟩ : ∃ zv : Int, (if zi < (zFg F zl 3 zi 0).1 then (zFg F zl 3 zi 0).2 else -1) = zv ∧ (zi < (zFg F zl 3 zi 0).1 → zv = (zFg F zl 3 zi 0).2) ∧ (¬ zi < (zFg F zl 3 zi 0).1 → zv = -1) := ⟨_, rfl, fun y => if_pos y, fun y => if_neg y⟩
  rw [y_v]
  refine wp_run (k := 5) (pc1 := 22) (l1 := [(0, .ref 27), (1, .int (iN (zi)))]) (st1 := [.int (iN (zv)), .int (iN (zw))]) (kr1 := (78, 76)) (h1 := am_wr zg1 27 5 (iN (zv))) (Eq.trans (b := (some (22, [(0, .ref 27), (1, .int (iN (zi)))], [.int ((am_wr zg1 27 5 (iN (zv))).1 27 5), .int ((am_wr zg1 27 5 (iN (zv))).1 27 3)], (78, 76), am_wr zg1 27 5 (iN (zv))) : Option am_C)) rfl (by simp only [(show (am_wr zg1 27 5 (iN (zv))).1 27 3 = iN zw from (am_wr_no (by decide)).trans ((q_s1 3 (by decide)).trans q_w3)), (show (am_wr zg1 27 5 (iN (zv))).1 27 5 = iN zv from am_wr_at)]; try simp only [Int32.ofInt_add, Int32.ofInt_sub, Int32.ofInt_mul, Int32.ofInt_neg])) ?_
  refine wp_call (md1 := am_m_Lp_mayBe) (As := [.int (iN (zw)), .int (iN (zv))]) (rest := []) (kr1 := (78, 76)) rfl (jt_mayBe _ (by omega) (zw := zw) (zv := zv) (by omega) (by omega)) ?_
  rintro _ _ ⟨rfl, rfl⟩
  refine wp_eqb rfl (fun b_25 => ?_) (fun b_25 => ?_)
  · refine wp_run (k := 4) (pc1 := 36) (l1 := [(0, .ref 27), (1, .int (iN (zi)))]) (st1 := [.int (iN (0))]) (kr1 := (78, 76)) (h1 := am_wr (am_wr zg1 27 5 (iN (zv))) 27 2 (iN (zi))) rfl ?_
    refine wp_ret (rv := some (.int (iN (0)))) rfl ?_
    have y_P : zNu F zl zw zi = (0, 0, zi) := if_neg (by omega)
    rw [y_P]
    exact ⟨rfl, am_fr_w (am_fr_w q_f1 (by decide) _ _) (by decide) _ _, fun zs y1 y2 => (am_wr_no y1).trans ((am_wr_no y2).trans (q_s1 zs y1)), am_wr_at, fun y => absurd (show (0 : Int) = 1 from y) (by decide)⟩
  · refine wp_run (k := 1) (pc1 := 29) (l1 := [(0, .ref 27), (1, .int (iN (zi)))]) (st1 := [.int (iN (1))]) (kr1 := (78, 76)) (h1 := am_wr zg1 27 5 (iN (zv))) rfl ?_
    refine wp_ret (rv := some (.int (iN (1)))) rfl ?_
    have y_P : zNu F zl zw zi = (1, (zFg F zl 3 zi 0).2, (zFg F zl 3 zi 0).1) := if_pos (by omega)
    rw [y_P]
    exact ⟨rfl, am_fr_w q_f1 (by decide) _ _, fun zs y1 y2 => (am_wr_no y2).trans (q_s1 zs y1), (am_wr_no (by decide)).trans q_p1, fun _ => by rw [am_wr_at]; exact congrArg iN (by dsimp only; omega)⟩
set_option maxRecDepth 20000 in
set_option maxHeartbeats 4000000 in
theorem jt_clause (zd : Nat) (q_d : 6 ≤ zd) {zh : am_H} {F : Int → Int} {zl : Int} {N : Int} {G : Int → Int → Int} {S T : Int} {zi : Int} (q_l : zh.1 27 1 = iN zl) (q_r : 0 ≤ zl ∧ zl ≤ 120) (q_f : ∀ k : Int, 0 ≤ k → k < zl → zh.1 28 k.toNat = iN (F k)) (q_c : ∀ k : Int, 0 ≤ k → k < zl → 32 ≤ F k ∧ F k ≤ 126) (q_p : zh.1 27 2 = iN zi) (q_i : 0 ≤ zi ∧ zi ≤ zl) (q_nm : zNm (zh.1 34) (zh.1 35) N G S T) (q_g : zGk N G S T) : am_wp zd am_m_Text_lookAtClause 0 [(0, .ref 27), (1, .ref 34)] [] (78, 76) zh (78, 76) (fun rv h' => rv = some (.int (iN (bI ((zCs F zl N zi).1 = 1) inferInstance))) ∧ am_fr [27] zh h' ∧ h'.1 27 1 = iN zl ∧ h'.1 27 2 = iN (zCs F zl N zi).2.2.2.2 ∧ ((zCs F zl N zi).1 = 1 → h'.1 27 3 = iN (zCs F zl N zi).2.1 ∧ h'.1 27 4 = iN (zCs F zl N zi).2.2.1 ∧ h'.1 27 5 = iN (zCs F zl N zi).2.2.2.1)) := by
  obtain ⟨zd, rfl⟩ : ∃ y_e, zd = y_e + 6 := ⟨zd - 6, by omega⟩
  have q_N := q_g.1
  refine wp_run (k := 1) (pc1 := 1) (l1 := [(0, .ref 27), (1, .ref 34)]) (st1 := [.ref 27]) (kr1 := (78, 76)) (h1 := zh) rfl ?_
  refine wp_call (md1 := am_m_Text_lookAtWord) (As := [.ref 27]) (rest := []) (kr1 := (78, 76)) rfl (jt_word _ (by omega) q_l q_r q_f q_c q_p q_i) ?_
  rintro _ zg1 ⟨rfl, q_a1, q_s1, q_x1, q_y1⟩
  have q_l1 := (q_s1 1 (by decide) (by decide)).trans q_l
  have y_e := zWe_rg (F := F) (L := zl) (i := zi) q_i.2
  have y_w := zWw_rg F zi (zWe F zl zi)
  refine wp_eqb rfl (fun b_4 => ?_) (fun b_4 => ?_)
  · refine wp_run (k := 1) (pc1 := 41) (l1 := [(0, .ref 27), (1, .ref 34)]) (st1 := [.int (iN (0))]) (kr1 := (78, 76)) (h1 := zg1) rfl ?_
    refine wp_ret (rv := some (.int (iN (0)))) rfl ?_
    have y_C : zCs F zl N zi = (0, 0, 0, 0, zi) := by unfold zCs; rw [if_pos (by omega)]
    rw [y_C]
    exact ⟨rfl, q_a1, q_l1, q_y1 (by omega), fun y => absurd (show (0 : Int) = 1 from y) (by decide)⟩
  · refine wp_run (k := 1) (pc1 := 8) (l1 := [(0, .ref 27), (1, .ref 34)]) (st1 := [.ref 27]) (kr1 := (78, 76)) (h1 := zg1) rfl ?_
    refine wp_call (md1 := am_m_Text_lookAtBlank) (As := [.ref 27]) (rest := []) (kr1 := (78, 76)) rfl (jt_blank (zi := zWe F zl zi) _ (by omega) q_l1 q_r (fun k y1 y2 => (congrFun (q_a1.2 28 (by decide)) _).trans (q_f k y1 y2)) q_c (q_x1 (by omega)).1 (by omega)) ?_
    rintro _ zg2 ⟨rfl, q_b2, q_s2, q_x2, q_y2⟩
    have q_a2 := am_fr_t q_a1 q_b2
    have q_l2 := (q_s2 1 (by decide)).trans q_l1
    have y_s2 := zSg_rg (i := zWe F zl zi) q_c
    refine wp_eqb rfl (fun b_11 => ?_) (fun b_11 => ?_)
    · refine wp_run (k := 1) (pc1 := 41) (l1 := [(0, .ref 27), (1, .ref 34)]) (st1 := [.int (iN (0))]) (kr1 := (78, 76)) (h1 := zg2) rfl ?_
      refine wp_ret (rv := some (.int (iN (0)))) rfl ?_
      have y_C : zCs F zl N zi = (0, 0, 0, 0, zWe F zl zi) := by unfold zCs; rw [if_neg (by omega), if_neg (by omega)]
      rw [y_C]
      exact ⟨rfl, q_a2, q_l2, q_y2 (by omega), fun y => absurd (show (0 : Int) = 1 from y) (by decide)⟩
    · refine wp_run (k := 2) (pc1 := 16) (l1 := [(0, .ref 27), (1, .ref 34)]) (st1 := [.ref 34, .ref 27]) (kr1 := (78, 76)) (h1 := zg2) rfl ?_
      refine wp_call (md1 := am_m_Text_lookAtPeriod) (As := [.ref 27, .ref 34]) (rest := []) (kr1 := (78, 76)) rfl (jt_lperiod (zi := zWe F zl zi + 1) _ (by omega) q_l2 q_r (fun k y1 y2 => (congrFun (q_a2.2 28 (by decide)) _).trans (q_f k y1 y2)) q_c (q_x2 (by omega)) (by omega) (zNm_f q_a2 q_nm (by decide) (by decide)) q_g) ?_
      rintro _ zg3 ⟨rfl, q_b3, q_s3, q_x3, q_y3⟩
      have q_a3 := am_fr_t q_a2 q_b3
      have q_l3 := (q_s3 1 (by decide) (by decide)).trans q_l2
      have y_P := zPd_rg (F := F) (L := zl) (N := N) (i := zWe F zl zi + 1) (by omega)
      refine wp_eqb rfl (fun b_19 => ?_) (fun b_19 => ?_)
      · refine wp_run (k := 1) (pc1 := 41) (l1 := [(0, .ref 27), (1, .ref 34)]) (st1 := [.int (iN (0))]) (kr1 := (78, 76)) (h1 := zg3) rfl ?_
        refine wp_ret (rv := some (.int (iN (0)))) rfl ?_
        have y_C : zCs F zl N zi = (0, 0, 0, 0, (zPd F zl N (zWe F zl zi + 1)).2.2) := by unfold zCs; rw [if_neg (by omega), if_pos (by omega), if_neg (by omega)]
        rw [y_C]
        exact ⟨rfl, q_a3, q_l3, q_x3, fun y => absurd (show (0 : Int) = 1 from y) (by decide)⟩
      · refine wp_run (k := 1) (pc1 := 23) (l1 := [(0, .ref 27), (1, .ref 34)]) (st1 := [.ref 27]) (kr1 := (78, 76)) (h1 := zg3) rfl ?_
        refine wp_call (md1 := am_m_Text_lookAtBlank) (As := [.ref 27]) (rest := []) (kr1 := (78, 76)) rfl (jt_blank (zi := (zPd F zl N (zWe F zl zi + 1)).2.2) _ (by omega) q_l3 q_r (fun k y1 y2 => (congrFun (q_a3.2 28 (by decide)) _).trans (q_f k y1 y2)) q_c q_x3 (by omega)) ?_
        rintro _ zg4 ⟨rfl, q_b4, q_s4, q_x4, q_y4⟩
        have q_a4 := am_fr_t q_a3 q_b4
        have q_l4 := (q_s4 1 (by decide)).trans q_l3
        have y_s4 := zSg_rg (i := (zPd F zl N (zWe F zl zi + 1)).2.2) q_c
        refine wp_eqb rfl (fun b_26 => ?_) (fun b_26 => ?_)
        · refine wp_run (k := 1) (pc1 := 41) (l1 := [(0, .ref 27), (1, .ref 34)]) (st1 := [.int (iN (0))]) (kr1 := (78, 76)) (h1 := zg4) rfl ?_
          refine wp_ret (rv := some (.int (iN (0)))) rfl ?_
          have y_C : zCs F zl N zi = (0, 0, 0, 0, (zPd F zl N (zWe F zl zi + 1)).2.2) := by unfold zCs; rw [if_neg (by omega), if_pos (by omega), if_pos (by omega), if_neg (by omega)]
          rw [y_C]
          exact ⟨rfl, q_a4, q_l4, q_y4 (by omega), fun y => absurd (show (0 : Int) = 1 from y) (by decide)⟩
        · refine wp_run (k := 1) (pc1 := 30) (l1 := [(0, .ref 27), (1, .ref 34)]) (st1 := [.ref 27]) (kr1 := (78, 76)) (h1 := zg4) rfl ?_
          refine wp_call (md1 := am_m_Text_lookAtNumber) (As := [.ref 27]) (rest := []) (kr1 := (78, 76)) rfl (jt_lnumber (zi := (zPd F zl N (zWe F zl zi + 1)).2.2 + 1) (zw := zWw F zi (zWe F zl zi)) _ (by omega) q_l4 q_r (fun k y1 y2 => (congrFun (q_a4.2 28 (by decide)) _).trans (q_f k y1 y2)) q_c (q_x4 (by omega)) (by omega) (by rw [q_s4 3 (by decide), q_s3 3 (by decide) (by decide), q_s2 3 (by decide)]; exact (q_x1 (by omega)).2) (by omega)) ?_
          rintro _ zg5 ⟨rfl, q_b5, q_s5, q_x5, q_y5⟩
          have q_a5 := am_fr_t q_a4 q_b5
          have q_l5 := (q_s5 1 (by decide) (by decide)).trans q_l4
          have y_N := zNu_rg (F := F) (L := zl) (w := zWw F zi (zWe F zl zi)) (i := (zPd F zl N (zWe F zl zi + 1)).2.2 + 1) (by omega)
          refine wp_eqb rfl (fun b_33 => ?_) (fun b_33 => ?_)
          · refine wp_run (k := 1) (pc1 := 41) (l1 := [(0, .ref 27), (1, .ref 34)]) (st1 := [.int (iN (0))]) (kr1 := (78, 76)) (h1 := zg5) rfl ?_
            refine wp_ret (rv := some (.int (iN (0)))) rfl ?_
            have y_C : zCs F zl N zi = (0, 0, 0, 0, (zNu F zl (zWw F zi (zWe F zl zi)) ((zPd F zl N (zWe F zl zi + 1)).2.2 + 1)).2.2) := by unfold zCs; rw [if_neg (by omega), if_pos (by omega), if_pos (by omega), if_pos (by omega), if_neg (by omega)]
            rw [y_C]
            exact ⟨rfl, q_a5, q_l5, q_x5, fun y => absurd (show (0 : Int) = 1 from y) (by decide)⟩
          · refine wp_run (k := 2) (pc1 := 41) (l1 := [(0, .ref 27), (1, .ref 34)]) (st1 := [.int (iN (1))]) (kr1 := (78, 76)) (h1 := zg5) rfl ?_
            refine wp_ret (rv := some (.int (iN (1)))) rfl ?_
            have y_C : zCs F zl N zi = (1, zWw F zi (zWe F zl zi), (zPd F zl N (zWe F zl zi + 1)).2.1, (zNu F zl (zWw F zi (zWe F zl zi)) ((zPd F zl N (zWe F zl zi + 1)).2.2 + 1)).2.1, (zNu F zl (zWw F zi (zWe F zl zi)) ((zPd F zl N (zWe F zl zi + 1)).2.2 + 1)).2.2) := by unfold zCs; rw [if_neg (by omega), if_pos (by omega), if_pos (by omega), if_pos (by omega), if_pos (by omega)]
            rw [y_C]
            refine ⟨rfl, q_a5, q_l5, q_x5, fun _ => ⟨?_, ?_, q_y5 (by omega)⟩⟩
            · rw [q_s5 3 (by decide) (by decide), q_s4 3 (by decide), q_s3 3 (by decide) (by decide), q_s2 3 (by decide)]; exact (q_x1 (by omega)).2
            · rw [q_s5 4 (by decide) (by decide), q_s4 4 (by decide)]; exact q_y3 (by omega)
