/-! THE CLASS's Bounded -/
theorem zBx_t (G : Int → Int → Int) (p : Int) (A : Int → Int) (c j x : Int) (q : c < x) : zBx G p A c j (x + 1 - c).toNat = if A x < 1000000000 ∧ A x + (G 1 p + G 2 p * (x - c)) < (zBx G p A c j (x - c).toNat).1 then (A x + (G 1 p + G 2 p * (x - c)), x - c) else zBx G p A c j (x - c).toNat := by
  rw [show (x + 1 - c).toNat = (x - c + 1).toNat by omega, zBx_s G p A c j (x - c) (by omega)]
  unfold zBy
  rw [show c + (x - c) = x by omega, if_pos (show 0 < x - c by omega)]
theorem zBx_1 (G : Int → Int → Int) (p : Int) (A : Int → Int) (c : Int) (q : A c ≤ 1000000000) : (zBx G p A c 0 (c + 1 - c).toNat).1 = A c := by
  rw [show (c + 1 - c).toNat = 1 by omega]
  show (if A (c + ((0 : Nat) : Int)) < 1000000000 ∧ A (c + ((0 : Nat) : Int)) + (if 0 < ((0 : Nat) : Int) then G 1 p + G 2 p * ((0 : Nat) : Int) else 0) < (1000000000 : Int) then (A (c + ((0 : Nat) : Int)) + (if 0 < ((0 : Nat) : Int) then G 1 p + G 2 p * ((0 : Nat) : Int) else 0), ((0 : Nat) : Int)) else ((1000000000 : Int), (0 : Int))).1 = A c
  rw [show c + ((0 : Nat) : Int) = c by omega, if_neg (show ¬ 0 < ((0 : Nat) : Int) by omega)]
  by_cases y : A c < 1000000000 ∧ A c + 0 < (1000000000 : Int)
  · rw [if_pos y]; dsimp only; omega
  · rw [if_neg y]; dsimp only; omega
/-- the least bounded lies there -/
def zBnd (zg : am_H) (N : Int) (G : Int → Int → Int) (S T : Int) : Prop := zg.1 18 5 = iN (zBst N G S T) ∧ (zBst N G S T = 0 → zg.1 19 0 = iN (zVb N G S T (zD G 0 (N - 1)) 0 0) ∧ ∀ p : Int, 0 ≤ p → p < N → zg.1 21 p.toNat = iN (zBm N G S T (zD G 0 (N - 1)) p))
theorem zBnd_f {zh zg : am_H} {N : Int} {G : Int → Int → Int} {S T : Int} {ks : List Nat} (q_f : am_fr ks zh zg) (q1 : 18 ∉ ks) (q2 : 19 ∉ ks) (q3 : 21 ∉ ks) (q : zBnd zh N G S T) : zBnd zg N G S T := by
  unfold zBnd
  rw [q_f.2 _ q1, q_f.2 _ q2, q_f.2 _ q3]
  exact q
set_option maxRecDepth 20000 in
set_option maxHeartbeats 4000000 in
theorem jl_bafter (zd : Nat) (q_d : 2 ≤ zd) {zh : am_H} {N : Int} {G : Int → Int → Int} {S T R : Int} {V : Int → Int} {zp : Int} (q_nm : zNm (zh.1 1) (zh.1 2) N G S T) (q_g : zGk N G S T) (q_t : zh.1 18 4 = iN R) (q_R : 0 ≤ R ∧ R ≤ 120) (q_p : 0 ≤ zp ∧ zp < N) (q_V : ∀ c : Int, 0 ≤ c → c ≤ R → zh.1 19 (121 * (zp + 1) + c).toNat = iN (V c) ∧ 0 ≤ V c ∧ V c ≤ 1000000000) {zQ : Option Value → am_H → Prop} (zk : ∀ zg : am_H, am_fr [20] zh zg → (∀ c : Int, 0 ≤ c → c ≤ R → zg.1 20 c.toNat = iN (zBa G S T zp c (V c))) → zQ none zg) : ∀ (z_n : Nat) (zg : am_H) (zi : Int) (q_f : am_fr [20] zh zg) (q_i : 0 ≤ zi ∧ zi ≤ R + 1) (q_w : ∀ c : Int, 0 ≤ c → c < zi → zg.1 20 c.toNat = iN (zBa G S T zp c (V c))), R + 1 - zi < (z_n : Int) → am_wp zd am_m_Bounded_reckonAfter 10 [(0, .ref 18), (1, .ref 1), (2, .int (iN (zp))), (3, .int (iN (zD G 0 zp))), (4, .int (iN (zi)))] [] (78, 76) zg (78, 76) zQ := by
  obtain ⟨zd, rfl⟩ : ∃ y_e, zd = y_e + 2 := ⟨zd - 2, by omega⟩
  intro z_n
  induction z_n with
  | zero => intro zg zi q_f q_i q_w q_m; omega
  | succ z_n z_ih =>
    intro zg zi q_f q_i q_w q_m
    have q_N := q_g.1
    have q_S := q_g.2.2.1
    have q_T := q_g.2.2.2
    have y_d := zD_rg q_g (a := 0) (b := zp) (by omega) (by omega) (by omega)
    refine wp_run (k := 3) (pc1 := 16) (l1 := [(0, .ref 18), (1, .ref 1), (2, .int (iN (zp))), (3, .int (iN (zD G 0 zp))), (4, .int (iN (zi)))]) (st1 := [.int (iN (R)), .int (iN (zi))]) (kr1 := (78, 76)) (h1 := zg) (Eq.trans (b := (some (16, [(0, .ref 18), (1, .ref 1), (2, .int (iN (zp))), (3, .int (iN (zD G 0 zp))), (4, .int (iN (zi)))], [.int (zg.1 18 4), .int (iN (zi))], (78, 76), zg) : Option am_C)) rfl (by simp only [(congrFun (q_f.2 18 (by decide)) 4).trans q_t, Int32.ofInt_add, Int32.ofInt_sub, Int32.ofInt_mul, Int32.ofInt_neg])) ?_
    refine wp_gt (a := zi) (b := R) rfl (by omega) (by omega) (fun b_16 => ?_) (fun b_16 => ?_)
    · refine wp_ret (rv := none) rfl ?_
      exact zk zg q_f (fun c y1 y2 => q_w c y1 (by omega))
    · have y_V := q_V zi (by omega) (by omega)
      have y_s := zSc_rg q_g (p := zp) (s := zi - zD G 0 zp) q_p (by omega)
      refine wp_run (k := 13) (pc1 := 38) (l1 := [(0, .ref 18), (1, .ref 1), (2, .int (iN (zp))), (3, .int (iN (zD G 0 zp))), (4, .int (iN (zi))), (5, .int (iN ((zi) - (zD G 0 zp))))]) (st1 := [.int (iN ((((zp) + (1)) * (121)) + (zi))), .ref 19]) (kr1 := (78, 76)) (h1 := zg) (Eq.trans (b := (some (38, [(0, .ref 18), (1, .ref 1), (2, .int (iN (zp))), (3, .int (iN (zD G 0 zp))), (4, .int (iN (zi))), (5, .int ((iN (zi)) - (iN (zD G 0 zp))))], [.int ((((iN (zp)) + (iN (1))) * (iN (121))) + (iN (zi))), .ref 19], (78, 76), zg) : Option am_C)) rfl (by simp only [Int32.ofInt_add, Int32.ofInt_sub, Int32.ofInt_mul, Int32.ofInt_neg])) ?_
      refine wp_call (md1 := am_m_Lp_at) (As := [.ref 19, .int (iN ((((zp) + (1)) * (121)) + (zi)))]) (rest := []) (kr1 := (78, 76)) rfl (jt_at _ (by omega) (zn := 2057) (zi := (((zp) + (1)) * (121)) + (zi)) (zv := iN (V zi)) rfl rfl (by decide) (by omega) (by omega) ((congrFun (q_f.2 19 (by decide)) _).trans ((congrArg (zh.1 19) (by omega)).trans y_V.1))) ?_
      rintro _ _ ⟨rfl, rfl⟩
      refine wp_run (k := 3) (pc1 := 46) (l1 := [(0, .ref 18), (1, .ref 1), (2, .int (iN (zp))), (3, .int (iN (zD G 0 zp))), (4, .int (iN (zi))), (5, .int (iN ((zi) - (zD G 0 zp)))), (6, .int (iN (V zi)))]) (st1 := [.ref 1, .int (iN ((zi) - (zD G 0 zp)))]) (kr1 := (78, 76)) (h1 := zg) rfl ?_
      refine wp_call (md1 := am_m_Numbers_store) (As := [.ref 1]) (rest := [.int (iN ((zi) - (zD G 0 zp)))]) (kr1 := (78, 76)) rfl (jt_store_1 _ (by omega) (zNm_f q_f q_nm (by decide) (by decide)) q_g) ?_
      rintro _ _ ⟨rfl, rfl⟩
      refine wp_gt (a := (zi) - (zD G 0 zp)) (b := S) rfl (by omega) (by omega) (fun b_49 => ?_) (fun b_49 => ?_)
      · refine wp_run (k := 6) (pc1 := 79) (l1 := [(0, .ref 18), (1, .ref 1), (2, .int (iN (zp))), (3, .int (iN (zD G 0 zp))), (4, .int (iN (zi))), (5, .int (iN ((zi) - (zD G 0 zp)))), (6, .int (iN (V zi))), (7, .int (iN (0)))]) (st1 := [.int (iN (0)), .int (iN (zi)), .ref 20]) (kr1 := (78, 76)) (h1 := zg) rfl ?_
        refine wp_eq0 (a := 0) rfl (by omega) (fun b_79 => ?_) (fun b_79 => ?_)
        · refine wp_run (k := 1) (pc1 := 104) (l1 := [(0, .ref 18), (1, .ref 1), (2, .int (iN (zp))), (3, .int (iN (zD G 0 zp))), (4, .int (iN (zi))), (5, .int (iN ((zi) - (zD G 0 zp)))), (6, .int (iN (V zi))), (7, .int (iN (0)))]) (st1 := [.int (iN (1000000000)), .int (iN (zi)), .ref 20]) (kr1 := (78, 76)) (h1 := zg) rfl ?_
          refine wp_call (md1 := am_m_Lp_lay) (As := [.ref 20, .int (iN (zi)), .int (iN (1000000000))]) (rest := []) (kr1 := (78, 76)) rfl (jt_lay _ (by omega) (zn := 121) (zi := zi) (zv := iN (1000000000)) (by decide) (by decide) rfl rfl rfl (by decide) (by omega) (by omega)) ?_
          rintro _ _ ⟨rfl, rfl⟩
          refine wp_run (k := 2) (pc1 := 10) (l1 := [(0, .ref 18), (1, .ref 1), (2, .int (iN (zp))), (3, .int (iN (zD G 0 zp))), (4, .int (iN ((zi) + 1))), (5, .int (iN ((zi) - (zD G 0 zp)))), (6, .int (iN (V zi))), (7, .int (iN (0)))]) (st1 := []) (kr1 := (78, 76)) (h1 := am_wr zg 20 (zi : Int).toNat (iN (1000000000))) (Eq.trans (b := (some (10, [(0, .ref 18), (1, .ref 1), (2, .int (iN (zp))), (3, .int (iN (zD G 0 zp))), (4, .int ((iN (zi)) + iN (1))), (5, .int (iN ((zi) - (zD G 0 zp)))), (6, .int (iN (V zi))), (7, .int (iN (0)))], [], (78, 76), am_wr zg 20 (zi : Int).toNat (iN (1000000000))) : Option am_C)) rfl (by simp only [Int32.ofInt_add, Int32.ofInt_sub, Int32.ofInt_mul, Int32.ofInt_neg])) ?_
          refine wp_drop [5, 6, 7] (l := [(0, .ref 18), (1, .ref 1), (2, .int (iN (zp))), (3, .int (iN (zD G 0 zp))), (4, .int (iN ((zi) + 1)))]) rfl rfl ?_
          refine z_ih (am_wr zg 20 (zi : Int).toNat (iN (1000000000))) (zi + 1) (am_fr_w q_f (by decide) _ _) (by omega) (fun c y1 y2 => ?_) (by omega)
          by_cases y3 : c = zi
          · rw [y3, am_wr_at]; unfold zBa; first | rw [if_pos (by omega)] | rw [if_neg (by omega)]
          · rw [am_wr_no (by omega)]; exact q_w c y1 (by omega)
        · exact absurd b_79 (by decide)
      · refine wp_run (k := 1) (pc1 := 54) (l1 := [(0, .ref 18), (1, .ref 1), (2, .int (iN (zp))), (3, .int (iN (zD G 0 zp))), (4, .int (iN (zi))), (5, .int (iN ((zi) - (zD G 0 zp)))), (6, .int (iN (V zi)))]) (st1 := [.int (iN ((zi) - (zD G 0 zp)))]) (kr1 := (78, 76)) (h1 := zg) rfl ?_
        refine wp_ge0 (a := (zi) - (zD G 0 zp)) rfl (by omega) (fun b_54 => ?_) (fun b_54 => ?_)
        · refine wp_run (k := 7) (pc1 := 79) (l1 := [(0, .ref 18), (1, .ref 1), (2, .int (iN (zp))), (3, .int (iN (zD G 0 zp))), (4, .int (iN (zi))), (5, .int (iN ((zi) - (zD G 0 zp)))), (6, .int (iN (V zi))), (7, .int (iN (1)))]) (st1 := [.int (iN (1)), .int (iN (zi)), .ref 20]) (kr1 := (78, 76)) (h1 := zg) rfl ?_
          refine wp_eq0 (a := 1) rfl (by omega) (fun b_79 => ?_) (fun b_79 => ?_)
          · exact absurd b_79 (by decide)
          · refine wp_run (k := 2) (pc1 := 86) (l1 := [(0, .ref 18), (1, .ref 1), (2, .int (iN (zp))), (3, .int (iN (zD G 0 zp))), (4, .int (iN (zi))), (5, .int (iN ((zi) - (zD G 0 zp)))), (6, .int (iN (V zi))), (7, .int (iN (1)))]) (st1 := [.int (iN (1000000000)), .int (iN (V zi)), .int (iN (zi)), .ref 20]) (kr1 := (78, 76)) (h1 := zg) rfl ?_
            refine wp_ge (a := V zi) (b := 1000000000) rfl (by omega) (by omega) (fun b_86 => ?_) (fun b_86 => ?_)
            · refine wp_run (k := 1) (pc1 := 104) (l1 := [(0, .ref 18), (1, .ref 1), (2, .int (iN (zp))), (3, .int (iN (zD G 0 zp))), (4, .int (iN (zi))), (5, .int (iN ((zi) - (zD G 0 zp)))), (6, .int (iN (V zi))), (7, .int (iN (1)))]) (st1 := [.int (iN (1000000000)), .int (iN (zi)), .ref 20]) (kr1 := (78, 76)) (h1 := zg) rfl ?_
              refine wp_call (md1 := am_m_Lp_lay) (As := [.ref 20, .int (iN (zi)), .int (iN (1000000000))]) (rest := []) (kr1 := (78, 76)) rfl (jt_lay _ (by omega) (zn := 121) (zi := zi) (zv := iN (1000000000)) (by decide) (by decide) rfl rfl rfl (by decide) (by omega) (by omega)) ?_
              rintro _ _ ⟨rfl, rfl⟩
              refine wp_run (k := 2) (pc1 := 10) (l1 := [(0, .ref 18), (1, .ref 1), (2, .int (iN (zp))), (3, .int (iN (zD G 0 zp))), (4, .int (iN ((zi) + 1))), (5, .int (iN ((zi) - (zD G 0 zp)))), (6, .int (iN (V zi))), (7, .int (iN (1)))]) (st1 := []) (kr1 := (78, 76)) (h1 := am_wr zg 20 (zi : Int).toNat (iN (1000000000))) (Eq.trans (b := (some (10, [(0, .ref 18), (1, .ref 1), (2, .int (iN (zp))), (3, .int (iN (zD G 0 zp))), (4, .int ((iN (zi)) + iN (1))), (5, .int (iN ((zi) - (zD G 0 zp)))), (6, .int (iN (V zi))), (7, .int (iN (1)))], [], (78, 76), am_wr zg 20 (zi : Int).toNat (iN (1000000000))) : Option am_C)) rfl (by simp only [Int32.ofInt_add, Int32.ofInt_sub, Int32.ofInt_mul, Int32.ofInt_neg])) ?_
              refine wp_drop [5, 6, 7] (l := [(0, .ref 18), (1, .ref 1), (2, .int (iN (zp))), (3, .int (iN (zD G 0 zp))), (4, .int (iN ((zi) + 1)))]) rfl rfl ?_
              refine z_ih (am_wr zg 20 (zi : Int).toNat (iN (1000000000))) (zi + 1) (am_fr_w q_f (by decide) _ _) (by omega) (fun c y1 y2 => ?_) (by omega)
              by_cases y3 : c = zi
              · rw [y3, am_wr_at]; unfold zBa; first | rw [if_pos (by omega)] | rw [if_neg (by omega)]
              · rw [am_wr_no (by omega)]; exact q_w c y1 (by omega)
            · refine wp_run (k := 4) (pc1 := 95) (l1 := [(0, .ref 18), (1, .ref 1), (2, .int (iN (zp))), (3, .int (iN (zD G 0 zp))), (4, .int (iN (zi))), (5, .int (iN ((zi) - (zD G 0 zp)))), (6, .int (iN (V zi))), (7, .int (iN (1)))]) (st1 := [.int (iN ((zi) - (zD G 0 zp))), .int (iN (zp)), .ref 1, .int (iN (V zi)), .int (iN (zi)), .ref 20]) (kr1 := (78, 76)) (h1 := zg) rfl ?_
              refine wp_call (md1 := am_m_Numbers_stockCost) (As := [.ref 1, .int (iN (zp)), .int (iN ((zi) - (zD G 0 zp)))]) (rest := [.int (iN (V zi)), .int (iN (zi)), .ref 20]) (kr1 := (78, 76)) rfl (jt_stockCost_1 _ (by omega) (zNm_f q_f q_nm (by decide) (by decide)) q_g (zp := zp) (zs := (zi) - (zD G 0 zp)) (by omega) (by omega)) ?_
              rintro _ _ ⟨rfl, rfl⟩
              refine wp_run (k := 2) (pc1 := 104) (l1 := [(0, .ref 18), (1, .ref 1), (2, .int (iN (zp))), (3, .int (iN (zD G 0 zp))), (4, .int (iN (zi))), (5, .int (iN ((zi) - (zD G 0 zp)))), (6, .int (iN (V zi))), (7, .int (iN (1)))]) (st1 := [.int (iN ((V zi) + (zSc G (zp) ((zi) - (zD G 0 zp))))), .int (iN (zi)), .ref 20]) (kr1 := (78, 76)) (h1 := zg) (Eq.trans (b := (some (104, [(0, .ref 18), (1, .ref 1), (2, .int (iN (zp))), (3, .int (iN (zD G 0 zp))), (4, .int (iN (zi))), (5, .int (iN ((zi) - (zD G 0 zp)))), (6, .int (iN (V zi))), (7, .int (iN (1)))], [.int ((iN (V zi)) + (iN (zSc G (zp) ((zi) - (zD G 0 zp))))), .int (iN (zi)), .ref 20], (78, 76), zg) : Option am_C)) rfl (by simp only [Int32.ofInt_add, Int32.ofInt_sub, Int32.ofInt_mul, Int32.ofInt_neg])) ?_
              refine wp_call (md1 := am_m_Lp_lay) (As := [.ref 20, .int (iN (zi)), .int (iN ((V zi) + (zSc G (zp) ((zi) - (zD G 0 zp)))))]) (rest := []) (kr1 := (78, 76)) rfl (jt_lay _ (by omega) (zn := 121) (zi := zi) (zv := iN ((V zi) + (zSc G (zp) ((zi) - (zD G 0 zp))))) (by decide) (by decide) rfl rfl rfl (by decide) (by omega) (by omega)) ?_
              rintro _ _ ⟨rfl, rfl⟩
              refine wp_run (k := 2) (pc1 := 10) (l1 := [(0, .ref 18), (1, .ref 1), (2, .int (iN (zp))), (3, .int (iN (zD G 0 zp))), (4, .int (iN ((zi) + 1))), (5, .int (iN ((zi) - (zD G 0 zp)))), (6, .int (iN (V zi))), (7, .int (iN (1)))]) (st1 := []) (kr1 := (78, 76)) (h1 := am_wr zg 20 (zi : Int).toNat (iN ((V zi) + (zSc G (zp) ((zi) - (zD G 0 zp)))))) (Eq.trans (b := (some (10, [(0, .ref 18), (1, .ref 1), (2, .int (iN (zp))), (3, .int (iN (zD G 0 zp))), (4, .int ((iN (zi)) + iN (1))), (5, .int (iN ((zi) - (zD G 0 zp)))), (6, .int (iN (V zi))), (7, .int (iN (1)))], [], (78, 76), am_wr zg 20 (zi : Int).toNat (iN ((V zi) + (zSc G (zp) ((zi) - (zD G 0 zp)))))) : Option am_C)) rfl (by simp only [Int32.ofInt_add, Int32.ofInt_sub, Int32.ofInt_mul, Int32.ofInt_neg])) ?_
              refine wp_drop [5, 6, 7] (l := [(0, .ref 18), (1, .ref 1), (2, .int (iN (zp))), (3, .int (iN (zD G 0 zp))), (4, .int (iN ((zi) + 1)))]) rfl rfl ?_
              refine z_ih (am_wr zg 20 (zi : Int).toNat (iN ((V zi) + (zSc G (zp) ((zi) - (zD G 0 zp)))))) (zi + 1) (am_fr_w q_f (by decide) _ _) (by omega) (fun c y1 y2 => ?_) (by omega)
              by_cases y3 : c = zi
              · rw [y3, am_wr_at]; unfold zBa; first | rw [if_pos (by omega)] | rw [if_neg (by omega)]
              · rw [am_wr_no (by omega)]; exact q_w c y1 (by omega)
        · refine wp_run (k := 1) (pc1 := 58) (l1 := [(0, .ref 18), (1, .ref 1), (2, .int (iN (zp))), (3, .int (iN (zD G 0 zp))), (4, .int (iN (zi))), (5, .int (iN ((zi) - (zD G 0 zp)))), (6, .int (iN (V zi)))]) (st1 := [.ref 1]) (kr1 := (78, 76)) (h1 := zg) rfl ?_
          refine wp_call (md1 := am_m_Numbers_lateMayBe) (As := [.ref 1]) (rest := []) (kr1 := (78, 76)) rfl (jt_lateMayBe_1 _ (by omega) (zNm_f q_f q_nm (by decide) (by decide)) q_g) ?_
          rintro _ _ ⟨rfl, rfl⟩
          refine wp_eq0 (a := T) rfl (by omega) (fun b_61 => ?_) (fun b_61 => ?_)
          · refine wp_run (k := 6) (pc1 := 79) (l1 := [(0, .ref 18), (1, .ref 1), (2, .int (iN (zp))), (3, .int (iN (zD G 0 zp))), (4, .int (iN (zi))), (5, .int (iN ((zi) - (zD G 0 zp)))), (6, .int (iN (V zi))), (7, .int (iN (0)))]) (st1 := [.int (iN (0)), .int (iN (zi)), .ref 20]) (kr1 := (78, 76)) (h1 := zg) rfl ?_
            refine wp_eq0 (a := 0) rfl (by omega) (fun b_79 => ?_) (fun b_79 => ?_)
            · refine wp_run (k := 1) (pc1 := 104) (l1 := [(0, .ref 18), (1, .ref 1), (2, .int (iN (zp))), (3, .int (iN (zD G 0 zp))), (4, .int (iN (zi))), (5, .int (iN ((zi) - (zD G 0 zp)))), (6, .int (iN (V zi))), (7, .int (iN (0)))]) (st1 := [.int (iN (1000000000)), .int (iN (zi)), .ref 20]) (kr1 := (78, 76)) (h1 := zg) rfl ?_
              refine wp_call (md1 := am_m_Lp_lay) (As := [.ref 20, .int (iN (zi)), .int (iN (1000000000))]) (rest := []) (kr1 := (78, 76)) rfl (jt_lay _ (by omega) (zn := 121) (zi := zi) (zv := iN (1000000000)) (by decide) (by decide) rfl rfl rfl (by decide) (by omega) (by omega)) ?_
              rintro _ _ ⟨rfl, rfl⟩
              refine wp_run (k := 2) (pc1 := 10) (l1 := [(0, .ref 18), (1, .ref 1), (2, .int (iN (zp))), (3, .int (iN (zD G 0 zp))), (4, .int (iN ((zi) + 1))), (5, .int (iN ((zi) - (zD G 0 zp)))), (6, .int (iN (V zi))), (7, .int (iN (0)))]) (st1 := []) (kr1 := (78, 76)) (h1 := am_wr zg 20 (zi : Int).toNat (iN (1000000000))) (Eq.trans (b := (some (10, [(0, .ref 18), (1, .ref 1), (2, .int (iN (zp))), (3, .int (iN (zD G 0 zp))), (4, .int ((iN (zi)) + iN (1))), (5, .int (iN ((zi) - (zD G 0 zp)))), (6, .int (iN (V zi))), (7, .int (iN (0)))], [], (78, 76), am_wr zg 20 (zi : Int).toNat (iN (1000000000))) : Option am_C)) rfl (by simp only [Int32.ofInt_add, Int32.ofInt_sub, Int32.ofInt_mul, Int32.ofInt_neg])) ?_
              refine wp_drop [5, 6, 7] (l := [(0, .ref 18), (1, .ref 1), (2, .int (iN (zp))), (3, .int (iN (zD G 0 zp))), (4, .int (iN ((zi) + 1)))]) rfl rfl ?_
              refine z_ih (am_wr zg 20 (zi : Int).toNat (iN (1000000000))) (zi + 1) (am_fr_w q_f (by decide) _ _) (by omega) (fun c y1 y2 => ?_) (by omega)
              by_cases y3 : c = zi
              · rw [y3, am_wr_at]; unfold zBa; first | rw [if_pos (by omega)] | rw [if_neg (by omega)]
              · rw [am_wr_no (by omega)]; exact q_w c y1 (by omega)
            · exact absurd b_79 (by decide)
          · refine wp_run (k := 7) (pc1 := 79) (l1 := [(0, .ref 18), (1, .ref 1), (2, .int (iN (zp))), (3, .int (iN (zD G 0 zp))), (4, .int (iN (zi))), (5, .int (iN ((zi) - (zD G 0 zp)))), (6, .int (iN (V zi))), (7, .int (iN (1)))]) (st1 := [.int (iN (1)), .int (iN (zi)), .ref 20]) (kr1 := (78, 76)) (h1 := zg) rfl ?_
            refine wp_eq0 (a := 1) rfl (by omega) (fun b_79 => ?_) (fun b_79 => ?_)
            · exact absurd b_79 (by decide)
            · refine wp_run (k := 2) (pc1 := 86) (l1 := [(0, .ref 18), (1, .ref 1), (2, .int (iN (zp))), (3, .int (iN (zD G 0 zp))), (4, .int (iN (zi))), (5, .int (iN ((zi) - (zD G 0 zp)))), (6, .int (iN (V zi))), (7, .int (iN (1)))]) (st1 := [.int (iN (1000000000)), .int (iN (V zi)), .int (iN (zi)), .ref 20]) (kr1 := (78, 76)) (h1 := zg) rfl ?_
              refine wp_ge (a := V zi) (b := 1000000000) rfl (by omega) (by omega) (fun b_86 => ?_) (fun b_86 => ?_)
              · refine wp_run (k := 1) (pc1 := 104) (l1 := [(0, .ref 18), (1, .ref 1), (2, .int (iN (zp))), (3, .int (iN (zD G 0 zp))), (4, .int (iN (zi))), (5, .int (iN ((zi) - (zD G 0 zp)))), (6, .int (iN (V zi))), (7, .int (iN (1)))]) (st1 := [.int (iN (1000000000)), .int (iN (zi)), .ref 20]) (kr1 := (78, 76)) (h1 := zg) rfl ?_
                refine wp_call (md1 := am_m_Lp_lay) (As := [.ref 20, .int (iN (zi)), .int (iN (1000000000))]) (rest := []) (kr1 := (78, 76)) rfl (jt_lay _ (by omega) (zn := 121) (zi := zi) (zv := iN (1000000000)) (by decide) (by decide) rfl rfl rfl (by decide) (by omega) (by omega)) ?_
                rintro _ _ ⟨rfl, rfl⟩
                refine wp_run (k := 2) (pc1 := 10) (l1 := [(0, .ref 18), (1, .ref 1), (2, .int (iN (zp))), (3, .int (iN (zD G 0 zp))), (4, .int (iN ((zi) + 1))), (5, .int (iN ((zi) - (zD G 0 zp)))), (6, .int (iN (V zi))), (7, .int (iN (1)))]) (st1 := []) (kr1 := (78, 76)) (h1 := am_wr zg 20 (zi : Int).toNat (iN (1000000000))) (Eq.trans (b := (some (10, [(0, .ref 18), (1, .ref 1), (2, .int (iN (zp))), (3, .int (iN (zD G 0 zp))), (4, .int ((iN (zi)) + iN (1))), (5, .int (iN ((zi) - (zD G 0 zp)))), (6, .int (iN (V zi))), (7, .int (iN (1)))], [], (78, 76), am_wr zg 20 (zi : Int).toNat (iN (1000000000))) : Option am_C)) rfl (by simp only [Int32.ofInt_add, Int32.ofInt_sub, Int32.ofInt_mul, Int32.ofInt_neg])) ?_
                refine wp_drop [5, 6, 7] (l := [(0, .ref 18), (1, .ref 1), (2, .int (iN (zp))), (3, .int (iN (zD G 0 zp))), (4, .int (iN ((zi) + 1)))]) rfl rfl ?_
                refine z_ih (am_wr zg 20 (zi : Int).toNat (iN (1000000000))) (zi + 1) (am_fr_w q_f (by decide) _ _) (by omega) (fun c y1 y2 => ?_) (by omega)
                by_cases y3 : c = zi
                · rw [y3, am_wr_at]; unfold zBa; first | rw [if_pos (by omega)] | rw [if_neg (by omega)]
                · rw [am_wr_no (by omega)]; exact q_w c y1 (by omega)
              · refine wp_run (k := 4) (pc1 := 95) (l1 := [(0, .ref 18), (1, .ref 1), (2, .int (iN (zp))), (3, .int (iN (zD G 0 zp))), (4, .int (iN (zi))), (5, .int (iN ((zi) - (zD G 0 zp)))), (6, .int (iN (V zi))), (7, .int (iN (1)))]) (st1 := [.int (iN ((zi) - (zD G 0 zp))), .int (iN (zp)), .ref 1, .int (iN (V zi)), .int (iN (zi)), .ref 20]) (kr1 := (78, 76)) (h1 := zg) rfl ?_
                refine wp_call (md1 := am_m_Numbers_stockCost) (As := [.ref 1, .int (iN (zp)), .int (iN ((zi) - (zD G 0 zp)))]) (rest := [.int (iN (V zi)), .int (iN (zi)), .ref 20]) (kr1 := (78, 76)) rfl (jt_stockCost_1 _ (by omega) (zNm_f q_f q_nm (by decide) (by decide)) q_g (zp := zp) (zs := (zi) - (zD G 0 zp)) (by omega) (by omega)) ?_
                rintro _ _ ⟨rfl, rfl⟩
                refine wp_run (k := 2) (pc1 := 104) (l1 := [(0, .ref 18), (1, .ref 1), (2, .int (iN (zp))), (3, .int (iN (zD G 0 zp))), (4, .int (iN (zi))), (5, .int (iN ((zi) - (zD G 0 zp)))), (6, .int (iN (V zi))), (7, .int (iN (1)))]) (st1 := [.int (iN ((V zi) + (zSc G (zp) ((zi) - (zD G 0 zp))))), .int (iN (zi)), .ref 20]) (kr1 := (78, 76)) (h1 := zg) (Eq.trans (b := (some (104, [(0, .ref 18), (1, .ref 1), (2, .int (iN (zp))), (3, .int (iN (zD G 0 zp))), (4, .int (iN (zi))), (5, .int (iN ((zi) - (zD G 0 zp)))), (6, .int (iN (V zi))), (7, .int (iN (1)))], [.int ((iN (V zi)) + (iN (zSc G (zp) ((zi) - (zD G 0 zp))))), .int (iN (zi)), .ref 20], (78, 76), zg) : Option am_C)) rfl (by simp only [Int32.ofInt_add, Int32.ofInt_sub, Int32.ofInt_mul, Int32.ofInt_neg])) ?_
                refine wp_call (md1 := am_m_Lp_lay) (As := [.ref 20, .int (iN (zi)), .int (iN ((V zi) + (zSc G (zp) ((zi) - (zD G 0 zp)))))]) (rest := []) (kr1 := (78, 76)) rfl (jt_lay _ (by omega) (zn := 121) (zi := zi) (zv := iN ((V zi) + (zSc G (zp) ((zi) - (zD G 0 zp))))) (by decide) (by decide) rfl rfl rfl (by decide) (by omega) (by omega)) ?_
                rintro _ _ ⟨rfl, rfl⟩
                refine wp_run (k := 2) (pc1 := 10) (l1 := [(0, .ref 18), (1, .ref 1), (2, .int (iN (zp))), (3, .int (iN (zD G 0 zp))), (4, .int (iN ((zi) + 1))), (5, .int (iN ((zi) - (zD G 0 zp)))), (6, .int (iN (V zi))), (7, .int (iN (1)))]) (st1 := []) (kr1 := (78, 76)) (h1 := am_wr zg 20 (zi : Int).toNat (iN ((V zi) + (zSc G (zp) ((zi) - (zD G 0 zp)))))) (Eq.trans (b := (some (10, [(0, .ref 18), (1, .ref 1), (2, .int (iN (zp))), (3, .int (iN (zD G 0 zp))), (4, .int ((iN (zi)) + iN (1))), (5, .int (iN ((zi) - (zD G 0 zp)))), (6, .int (iN (V zi))), (7, .int (iN (1)))], [], (78, 76), am_wr zg 20 (zi : Int).toNat (iN ((V zi) + (zSc G (zp) ((zi) - (zD G 0 zp)))))) : Option am_C)) rfl (by simp only [Int32.ofInt_add, Int32.ofInt_sub, Int32.ofInt_mul, Int32.ofInt_neg])) ?_
                refine wp_drop [5, 6, 7] (l := [(0, .ref 18), (1, .ref 1), (2, .int (iN (zp))), (3, .int (iN (zD G 0 zp))), (4, .int (iN ((zi) + 1)))]) rfl rfl ?_
                refine z_ih (am_wr zg 20 (zi : Int).toNat (iN ((V zi) + (zSc G (zp) ((zi) - (zD G 0 zp)))))) (zi + 1) (am_fr_w q_f (by decide) _ _) (by omega) (fun c y1 y2 => ?_) (by omega)
                by_cases y3 : c = zi
                · rw [y3, am_wr_at]; unfold zBa; first | rw [if_pos (by omega)] | rw [if_neg (by omega)]
                · rw [am_wr_no (by omega)]; exact q_w c y1 (by omega)
set_option maxRecDepth 20000 in
set_option maxHeartbeats 4000000 in
theorem jt_bafter (zd : Nat) (q_d : 2 ≤ zd) {zh : am_H} {N : Int} {G : Int → Int → Int} {S T R : Int} {V : Int → Int} {zp : Int} (q_nm : zNm (zh.1 1) (zh.1 2) N G S T) (q_g : zGk N G S T) (q_t : zh.1 18 4 = iN R) (q_R : 0 ≤ R ∧ R ≤ 120) (q_p : 0 ≤ zp ∧ zp < N) (q_V : ∀ c : Int, 0 ≤ c → c ≤ R → zh.1 19 (121 * (zp + 1) + c).toNat = iN (V c) ∧ 0 ≤ V c ∧ V c ≤ 1000000000) : am_wp zd am_m_Bounded_reckonAfter 0 [(0, .ref 18), (1, .ref 1), (2, .int (iN (zp)))] [] (78, 76) zh (78, 76) (fun rv h' => rv = none ∧ am_fr [20] zh h' ∧ ∀ c : Int, 0 ≤ c → c ≤ R → h'.1 20 c.toNat = iN (zBa G S T zp c (V c))) := by
  obtain ⟨zd, rfl⟩ : ∃ y_e, zd = y_e + 2 := ⟨zd - 2, by omega⟩
  have q_N := q_g.1
  have q_S := q_g.2.2.1
  have q_T := q_g.2.2.2
  refine wp_run (k := 3) (pc1 := 3) (l1 := [(0, .ref 18), (1, .ref 1), (2, .int (iN (zp)))]) (st1 := [.int (iN (zp)), .int (iN (0)), .ref 1]) (kr1 := (78, 76)) (h1 := zh) rfl ?_
  refine wp_call (md1 := am_m_Numbers_pieces) (As := [.ref 1, .int (iN (0)), .int (iN (zp))]) (rest := []) (kr1 := (78, 76)) rfl (jt_pieces_1 _ (by omega) q_nm q_g (za := 0) (zb := zp) (by omega)) ?_
  rintro _ _ ⟨rfl, rfl⟩
  refine wp_run (k := 3) (pc1 := 10) (l1 := [(0, .ref 18), (1, .ref 1), (2, .int (iN (zp))), (3, .int (iN (zD G (0) (zp)))), (4, .int (iN (0)))]) (st1 := []) (kr1 := (78, 76)) (h1 := zh) rfl ?_
  exact jl_bafter _ (by omega) q_nm q_g q_t q_R q_p q_V (fun zg y1 y2 => ⟨rfl, y1, y2⟩) 130 zh 0 (am_fr_0 _ _) (by omega) (fun c y1 y2 => by omega) (by omega)
set_option maxRecDepth 20000 in
set_option maxHeartbeats 4000000 in
theorem jt_bmost (zd : Nat) (q_d : 2 ≤ zd) {zh : am_H} {N : Int} {G : Int → Int → Int} {S T R : Int} {zp zc : Int} (q_nm : zNm (zh.1 1) (zh.1 2) N G S T) (q_g : zGk N G S T) (q_t : zh.1 18 4 = iN R) (q_R : 0 ≤ R ∧ R ≤ 120) (q_p : 0 ≤ zp ∧ zp < N) (q_c : 0 ≤ zc ∧ zc ≤ R) : am_wp zd am_m_Bounded_mostBehind 0 [(0, .ref 18), (1, .ref 1), (2, .int (iN (zp))), (3, .int (iN (zc)))] [] (78, 76) zh (78, 76) (fun rv h' => rv = some (.int (iN (min R (zc + G 5 zp)))) ∧ zh = h') := by
  obtain ⟨zd, rfl⟩ : ∃ y_e, zd = y_e + 2 := ⟨zd - 2, by omega⟩
  have q_N := q_g.1
  have q_S := q_g.2.2.1
  have q_T := q_g.2.2.2
  have y_5 := q_g.2.1 5 zp (by omega) (by omega) (by omega) (by omega)
  have y_v := (show vmax 5 = 999 from rfl)
  refine wp_run (k := 6) (pc1 := 8) (l1 := [(0, .ref 18), (1, .ref 1), (2, .int (iN (zp))), (3, .int (iN (zc)))]) (st1 := [.int (iN (5)), .int (iN (zp)), .ref 1, .int (iN (zc)), .int (iN (R))]) (kr1 := (78, 76)) (h1 := zh) (Eq.trans (b := (some (8, [(0, .ref 18), (1, .ref 1), (2, .int (iN (zp))), (3, .int (iN (zc)))], [.int (iN (5)), .int (iN (zp)), .ref 1, .int (iN (zc)), .int (zh.1 18 4)], (78, 76), zh) : Option am_C)) rfl (by simp only [q_t, Int32.ofInt_add, Int32.ofInt_sub, Int32.ofInt_mul, Int32.ofInt_neg])) ?_
  refine wp_call (md1 := am_m_Numbers_value) (As := [.ref 1, .int (iN (zp)), .int (iN (5))]) (rest := [.int (iN (zc)), .int (iN (R))]) (kr1 := (78, 76)) rfl (jt_value_1 _ (by omega) q_nm q_g (zp := zp) (zw := 5) (by omega) (by omega)) ?_
  rintro _ _ ⟨rfl, rfl⟩
  refine wp_run (k := 1) (pc1 := 12) (l1 := [(0, .ref 18), (1, .ref 1), (2, .int (iN (zp))), (3, .int (iN (zc)))]) (st1 := [.int (iN ((zc) + (G (5) (zp)))), .int (iN (R))]) (kr1 := (78, 76)) (h1 := zh) (Eq.trans (b := (some (12, [(0, .ref 18), (1, .ref 1), (2, .int (iN (zp))), (3, .int (iN (zc)))], [.int ((iN (zc)) + (iN (G (5) (zp)))), .int (iN (R))], (78, 76), zh) : Option am_C)) rfl (by simp only [Int32.ofInt_add, Int32.ofInt_sub, Int32.ofInt_mul, Int32.ofInt_neg])) ?_
  refine wp_now (rest := [.int (if iN ((zc) + (G (5) (zp))) < iN (R) then iN ((zc) + (G (5) (zp))) else iN (R))]) rfl ?_
  rw [show (if iN ((zc) + (G (5) (zp))) < iN (R) then iN ((zc) + (G (5) (zp))) else iN (R)) = iN (min (R) ((zc) + (G (5) (zp)))) from iN_min (by omega) (by omega)]
  refine wp_ret (rv := some (.int (iN (min (R) ((zc) + (G (5) (zp))))))) rfl ?_
  exact ⟨rfl, rfl⟩
set_option maxRecDepth 20000 in
set_option maxHeartbeats 4000000 in
theorem jl_bleast (zd : Nat) (q_d : 3 ≤ zd) {zh : am_H} {N : Int} {G : Int → Int → Int} {S T R : Int} {A : Int → Int} {zp zc : Int} {ze : Int} (q_nm : zNm (zh.1 1) (zh.1 2) N G S T) (q_g : zGk N G S T) (q_t : zh.1 18 4 = iN R) (q_R : 0 ≤ R ∧ R ≤ 120) (q_p : 0 ≤ zp ∧ zp < N) (q_c : 0 ≤ zc ∧ zc ≤ R) (q_A : ∀ x : Int, zc ≤ x → x ≤ R → zh.1 20 x.toNat = iN (A x) ∧ 0 ≤ A x ∧ (A x = 1000000000 ∨ A x ≤ 5000000)) (q_E : ze = min R (zc + G 5 zp)) {zQ : Option Value → am_H → Prop} (zk : ∀ zv : Int, zv = (zBx G zp A zc 0 (zBn G R zp zc)).1 → zQ (some (.int (iN zv))) zh) : ∀ (z_n : Nat) (zi : Int) (zv : Int) (q_i : zc + 1 ≤ zi ∧ zi ≤ ze + 1) (q_z : zv = (zBx G zp A zc 0 (zi - zc).toNat).1) (q_v : 0 ≤ zv ∧ zv ≤ 1000000000), R + 1 - zi < (z_n : Int) → am_wp zd am_m_Bounded_leastFrom 54 [(0, .ref 18), (1, .ref 1), (2, .int (iN (zp))), (3, .int (iN (zc))), (4, .int (iN (zv))), (5, .int (iN (G 1 zp))), (6, .int (iN (G 2 zp))), (7, .int (iN (ze))), (8, .int (iN (zi)))] [] (78, 76) zh (78, 76) zQ := by
  obtain ⟨zd, rfl⟩ : ∃ y_e, zd = y_e + 3 := ⟨zd - 3, by omega⟩
  intro z_n
  induction z_n with
  | zero => intro zi zv q_i q_z q_v q_m; omega
  | succ z_n z_ih =>
    intro zi zv q_i q_z q_v q_m
    have q_N := q_g.1
    have q_S := q_g.2.2.1
    have q_T := q_g.2.2.2
    have y_1 := q_g.2.1 1 zp (by omega) (by omega) (by omega) (by omega)
    have y_2 := q_g.2.1 2 zp (by omega) (by omega) (by omega) (by omega)
    have y_w1 := (show vmax 1 = 999 from rfl)
    have y_w2 := (show vmax 2 = 99 from rfl)
    have y_5 := q_g.2.1 5 zp (by omega) (by omega) (by omega) (by omega)
    have y_v := (show vmax 5 = 999 from rfl)
    refine wp_run (k := 2) (pc1 := 58) (l1 := [(0, .ref 18), (1, .ref 1), (2, .int (iN (zp))), (3, .int (iN (zc))), (4, .int (iN (zv))), (5, .int (iN (G 1 zp))), (6, .int (iN (G 2 zp))), (7, .int (iN (ze))), (8, .int (iN (zi)))]) (st1 := [.int (iN (ze)), .int (iN (zi))]) (kr1 := (78, 76)) (h1 := zh) rfl ?_
    refine wp_gt (a := zi) (b := ze) rfl (by omega) (by omega) (fun b_58 => ?_) (fun b_58 => ?_)
    · refine wp_run (k := 1) (pc1 := 100) (l1 := [(0, .ref 18), (1, .ref 1), (2, .int (iN (zp))), (3, .int (iN (zc))), (4, .int (iN (zv))), (5, .int (iN (G 1 zp))), (6, .int (iN (G 2 zp))), (7, .int (iN (ze))), (8, .int (iN (zi)))]) (st1 := [.int (iN (zv))]) (kr1 := (78, 76)) (h1 := zh) rfl ?_
      refine wp_ret (rv := some (.int (iN (zv)))) rfl ?_
      refine zk _ ?_
      rw [q_z, show (zi - zc).toNat = zBn G R zp zc from by unfold zBn; omega]
    · have y_A := q_A zi (by omega) (by omega)
      have y_m := zmul_rg (x := G 2 zp) (X := 99) (y := zi - zc) (Y := 120) (by omega) (by omega)
      refine wp_run (k := 3) (pc1 := 67) (l1 := [(0, .ref 18), (1, .ref 1), (2, .int (iN (zp))), (3, .int (iN (zc))), (4, .int (iN (zv))), (5, .int (iN (G 1 zp))), (6, .int (iN (G 2 zp))), (7, .int (iN (ze))), (8, .int (iN (zi)))]) (st1 := [.int (iN (zi)), .ref 20]) (kr1 := (78, 76)) (h1 := zh) rfl ?_
      refine wp_iald (f := zh.1 20) (z := zi) (j := zi.toNat) (n := 121) (v := iN (A zi)) rfl rfl (by omega) (by omega) (by decide) (y_A.1) ?_
      refine wp_run (k := 11) (pc1 := 85) (l1 := [(0, .ref 18), (1, .ref 1), (2, .int (iN (zp))), (3, .int (iN (zc))), (4, .int (iN (zv))), (5, .int (iN (G 1 zp))), (6, .int (iN (G 2 zp))), (7, .int (iN (ze))), (8, .int (iN (zi))), (9, .int (iN (((A zi) + (G 1 zp)) + ((G 2 zp) * ((zi) - (zc))))))]) (st1 := [.int (iN (zv)), .int (iN (((A zi) + (G 1 zp)) + ((G 2 zp) * ((zi) - (zc)))))]) (kr1 := (78, 76)) (h1 := zh) (Eq.trans (b := (some (85, [(0, .ref 18), (1, .ref 1), (2, .int (iN (zp))), (3, .int (iN (zc))), (4, .int (iN (zv))), (5, .int (iN (G 1 zp))), (6, .int (iN (G 2 zp))), (7, .int (iN (ze))), (8, .int (iN (zi))), (9, .int (((iN (A zi)) + (iN (G 1 zp))) + ((iN (G 2 zp)) * ((iN (zi)) - (iN (zc))))))], [.int (iN (zv)), .int (((iN (A zi)) + (iN (G 1 zp))) + ((iN (G 2 zp)) * ((iN (zi)) - (iN (zc)))))], (78, 76), zh) : Option am_C)) rfl (by simp only [Int32.ofInt_add, Int32.ofInt_sub, Int32.ofInt_mul, Int32.ofInt_neg])) ?_
      refine wp_ge (a := ((A zi) + (G 1 zp)) + ((G 2 zp) * ((zi) - (zc)))) (b := zv) rfl (by omega) (by omega) (fun b_85 => ?_) (fun b_85 => ?_)
      · refine wp_run (k := 2) (pc1 := 54) (l1 := [(0, .ref 18), (1, .ref 1), (2, .int (iN (zp))), (3, .int (iN (zc))), (4, .int (iN (zv))), (5, .int (iN (G 1 zp))), (6, .int (iN (G 2 zp))), (7, .int (iN (ze))), (8, .int (iN ((zi) + 1))), (9, .int (iN (((A zi) + (G 1 zp)) + ((G 2 zp) * ((zi) - (zc))))))]) (st1 := []) (kr1 := (78, 76)) (h1 := zh) (Eq.trans (b := (some (54, [(0, .ref 18), (1, .ref 1), (2, .int (iN (zp))), (3, .int (iN (zc))), (4, .int (iN (zv))), (5, .int (iN (G 1 zp))), (6, .int (iN (G 2 zp))), (7, .int (iN (ze))), (8, .int ((iN (zi)) + iN (1))), (9, .int (iN (((A zi) + (G 1 zp)) + ((G 2 zp) * ((zi) - (zc))))))], [], (78, 76), zh) : Option am_C)) rfl (by simp only [Int32.ofInt_add, Int32.ofInt_sub, Int32.ofInt_mul, Int32.ofInt_neg])) ?_
        refine wp_drop [9] (l := [(0, .ref 18), (1, .ref 1), (2, .int (iN (zp))), (3, .int (iN (zc))), (4, .int (iN (zv))), (5, .int (iN (G 1 zp))), (6, .int (iN (G 2 zp))), (7, .int (iN (ze))), (8, .int (iN ((zi) + 1)))]) rfl rfl ?_
        refine z_ih (zi + 1) (zv) (by omega) ?_ (by omega) (by omega)
        rw [zBx_t G zp A zc 0 zi (by omega)]
        first
        | (rw [if_pos (by omega)]; dsimp only; omega)
        | (rw [if_neg (by omega)]; omega)
      · refine wp_run (k := 4) (pc1 := 54) (l1 := [(0, .ref 18), (1, .ref 1), (2, .int (iN (zp))), (3, .int (iN (zc))), (4, .int (iN (((A zi) + (G 1 zp)) + ((G 2 zp) * ((zi) - (zc)))))), (5, .int (iN (G 1 zp))), (6, .int (iN (G 2 zp))), (7, .int (iN (ze))), (8, .int (iN ((zi) + 1))), (9, .int (iN (((A zi) + (G 1 zp)) + ((G 2 zp) * ((zi) - (zc))))))]) (st1 := []) (kr1 := (78, 76)) (h1 := zh) (Eq.trans (b := (some (54, [(0, .ref 18), (1, .ref 1), (2, .int (iN (zp))), (3, .int (iN (zc))), (4, .int (iN (((A zi) + (G 1 zp)) + ((G 2 zp) * ((zi) - (zc)))))), (5, .int (iN (G 1 zp))), (6, .int (iN (G 2 zp))), (7, .int (iN (ze))), (8, .int ((iN (zi)) + iN (1))), (9, .int (iN (((A zi) + (G 1 zp)) + ((G 2 zp) * ((zi) - (zc))))))], [], (78, 76), zh) : Option am_C)) rfl (by simp only [Int32.ofInt_add, Int32.ofInt_sub, Int32.ofInt_mul, Int32.ofInt_neg])) ?_
        refine wp_drop [9] (l := [(0, .ref 18), (1, .ref 1), (2, .int (iN (zp))), (3, .int (iN (zc))), (4, .int (iN (((A zi) + (G 1 zp)) + ((G 2 zp) * ((zi) - (zc)))))), (5, .int (iN (G 1 zp))), (6, .int (iN (G 2 zp))), (7, .int (iN (ze))), (8, .int (iN ((zi) + 1)))]) rfl rfl ?_
        refine z_ih (zi + 1) (((A zi) + (G 1 zp)) + ((G 2 zp) * ((zi) - (zc)))) (by omega) ?_ (by omega) (by omega)
        rw [zBx_t G zp A zc 0 zi (by omega)]
        first
        | (rw [if_pos (by omega)]; dsimp only; omega)
        | (rw [if_neg (by omega)]; omega)
set_option maxRecDepth 20000 in
set_option maxHeartbeats 4000000 in
theorem jt_bleast (zd : Nat) (q_d : 3 ≤ zd) {zh : am_H} {N : Int} {G : Int → Int → Int} {S T R : Int} {A : Int → Int} {zp zc : Int} (q_nm : zNm (zh.1 1) (zh.1 2) N G S T) (q_g : zGk N G S T) (q_t : zh.1 18 4 = iN R) (q_R : 0 ≤ R ∧ R ≤ 120) (q_p : 0 ≤ zp ∧ zp < N) (q_c : 0 ≤ zc ∧ zc ≤ R) (q_A : ∀ x : Int, zc ≤ x → x ≤ R → zh.1 20 x.toNat = iN (A x) ∧ 0 ≤ A x ∧ (A x = 1000000000 ∨ A x ≤ 5000000)) : am_wp zd am_m_Bounded_leastFrom 0 [(0, .ref 18), (1, .ref 1), (2, .int (iN (zp))), (3, .int (iN (zc)))] [] (78, 76) zh (78, 76) (fun rv h' => rv = some (.int (iN (zBx G zp A zc 0 (zBn G R zp zc)).1)) ∧ zh = h') := by
  obtain ⟨zd, rfl⟩ : ∃ y_e, zd = y_e + 3 := ⟨zd - 3, by omega⟩
  have q_N := q_g.1
  have q_S := q_g.2.2.1
  have q_T := q_g.2.2.2
  have y_1 := q_g.2.1 1 zp (by omega) (by omega) (by omega) (by omega)
  have y_2 := q_g.2.1 2 zp (by omega) (by omega) (by omega) (by omega)
  have y_w1 := (show vmax 1 = 999 from rfl)
  have y_w2 := (show vmax 2 = 99 from rfl)
  have y_5 := q_g.2.1 5 zp (by omega) (by omega) (by omega) (by omega)
  have y_v := (show vmax 5 = 999 from rfl)
  have y_A := q_A zc (by omega) (by omega)
  refine wp_run (k := 3) (pc1 := 5) (l1 := [(0, .ref 18), (1, .ref 1), (2, .int (iN (zp))), (3, .int (iN (zc)))]) (st1 := [.int (iN (zc)), .ref 20]) (kr1 := (78, 76)) (h1 := zh) rfl ?_
  refine wp_call (md1 := am_m_Lp_at) (As := [.ref 20, .int (iN (zc))]) (rest := []) (kr1 := (78, 76)) rfl (jt_at _ (by omega) (zn := 121) (zi := zc) (zv := iN (A zc)) rfl rfl (by decide) (by omega) (by omega) (y_A.1)) ?_
  rintro _ _ ⟨rfl, rfl⟩
  refine wp_run (k := 4) (pc1 := 13) (l1 := [(0, .ref 18), (1, .ref 1), (2, .int (iN (zp))), (3, .int (iN (zc))), (4, .int (iN (A zc)))]) (st1 := [.int (iN (1)), .int (iN (zp)), .ref 1]) (kr1 := (78, 76)) (h1 := zh) rfl ?_
  refine wp_call (md1 := am_m_Numbers_value) (As := [.ref 1, .int (iN (zp)), .int (iN (1))]) (rest := []) (kr1 := (78, 76)) rfl (jt_value_1 _ (by omega) q_nm q_g (zp := zp) (zw := 1) (by omega) (by omega)) ?_
  rintro _ _ ⟨rfl, rfl⟩
  refine wp_run (k := 4) (pc1 := 21) (l1 := [(0, .ref 18), (1, .ref 1), (2, .int (iN (zp))), (3, .int (iN (zc))), (4, .int (iN (A zc))), (5, .int (iN (G (1) (zp))))]) (st1 := [.int (iN (2)), .int (iN (zp)), .ref 1]) (kr1 := (78, 76)) (h1 := zh) rfl ?_
  refine wp_call (md1 := am_m_Numbers_value) (As := [.ref 1, .int (iN (zp)), .int (iN (2))]) (rest := []) (kr1 := (78, 76)) rfl (jt_value_1 _ (by omega) q_nm q_g (zp := zp) (zw := 2) (by omega) (by omega)) ?_
  rintro _ _ ⟨rfl, rfl⟩
  refine wp_run (k := 5) (pc1 := 30) (l1 := [(0, .ref 18), (1, .ref 1), (2, .int (iN (zp))), (3, .int (iN (zc))), (4, .int (iN (A zc))), (5, .int (iN (G (1) (zp)))), (6, .int (iN (G (2) (zp))))]) (st1 := [.int (iN (zc)), .int (iN (zp)), .ref 1, .ref 18]) (kr1 := (78, 76)) (h1 := zh) rfl ?_
  refine wp_call (md1 := am_m_Bounded_mostBehind) (As := [.ref 18, .ref 1, .int (iN (zp)), .int (iN (zc))]) (rest := []) (kr1 := (78, 76)) rfl (jt_bmost _ (by omega) q_nm q_g q_t q_R q_p q_c) ?_
  rintro _ _ ⟨rfl, rfl⟩
  refine wp_run (k := 2) (pc1 := 37) (l1 := [(0, .ref 18), (1, .ref 1), (2, .int (iN (zp))), (3, .int (iN (zc))), (4, .int (iN (A zc))), (5, .int (iN (G (1) (zp)))), (6, .int (iN (G (2) (zp))))]) (st1 := [.ref 20, .int (iN (min R (zc + G 5 zp)))]) (kr1 := (78, 76)) (h1 := zh) rfl ?_
  refine wp_alen (v := 121) rfl rfl ?_
  refine wp_run (k := 2) (pc1 := 40) (l1 := [(0, .ref 18), (1, .ref 1), (2, .int (iN (zp))), (3, .int (iN (zc))), (4, .int (iN (A zc))), (5, .int (iN (G (1) (zp)))), (6, .int (iN (G (2) (zp))))]) (st1 := [.int (iN ((121) - (1))), .int (iN (min R (zc + G 5 zp)))]) (kr1 := (78, 76)) (h1 := zh) (Eq.trans (b := (some (40, [(0, .ref 18), (1, .ref 1), (2, .int (iN (zp))), (3, .int (iN (zc))), (4, .int (iN (A zc))), (5, .int (iN (G (1) (zp)))), (6, .int (iN (G (2) (zp))))], [.int ((iN (121)) - (iN (1))), .int (iN (min R (zc + G 5 zp)))], (78, 76), zh) : Option am_C)) rfl (by simp only [Int32.ofInt_add, Int32.ofInt_sub, Int32.ofInt_mul, Int32.ofInt_neg])) ?_
  refine wp_now (rest := [.int (if iN ((121) - (1)) < iN (min R (zc + G 5 zp)) then iN ((121) - (1)) else iN (min R (zc + G 5 zp)))]) rfl ?_
  rw [show (if iN ((121) - (1)) < iN (min R (zc + G 5 zp)) then iN ((121) - (1)) else iN (min R (zc + G 5 zp))) = iN (min (min R (zc + G 5 zp)) ((121) - (1))) from iN_min (by omega) (by omega)]
  refine wp_run (k := 3) (pc1 := 47) (l1 := [(0, .ref 18), (1, .ref 1), (2, .int (iN (zp))), (3, .int (iN (zc))), (4, .int (iN (A zc))), (5, .int (iN (G (1) (zp)))), (6, .int (iN (G (2) (zp)))), (7, .int (iN (min (min R (zc + G 5 zp)) ((121) - (1)))))]) (st1 := [.int (iN (zc)), .int (iN (0))]) (kr1 := (78, 76)) (h1 := zh) rfl ?_
  refine wp_now (rest := [.int (if iN (0) < iN (zc) then iN (zc) else iN (0))]) rfl ?_
  rw [show (if iN (0) < iN (zc) then iN (zc) else iN (0)) = iN (max (0) (zc)) from iN_max (by omega) (by omega)]
  refine wp_run (k := 3) (pc1 := 54) (l1 := [(0, .ref 18), (1, .ref 1), (2, .int (iN (zp))), (3, .int (iN (zc))), (4, .int (iN (A zc))), (5, .int (iN (G (1) (zp)))), (6, .int (iN (G (2) (zp)))), (7, .int (iN (min (min R (zc + G 5 zp)) ((121) - (1))))), (8, .int (iN ((max (0) (zc)) + (1))))]) (st1 := []) (kr1 := (78, 76)) (h1 := zh) (Eq.trans (b := (some (54, [(0, .ref 18), (1, .ref 1), (2, .int (iN (zp))), (3, .int (iN (zc))), (4, .int (iN (A zc))), (5, .int (iN (G (1) (zp)))), (6, .int (iN (G (2) (zp)))), (7, .int (iN (min (min R (zc + G 5 zp)) ((121) - (1))))), (8, .int ((iN (max (0) (zc))) + (iN (1))))], [], (78, 76), zh) : Option am_C)) rfl (by simp only [Int32.ofInt_add, Int32.ofInt_sub, Int32.ofInt_mul, Int32.ofInt_neg])) ?_
  have y_E : min (min R (zc + G 5 zp)) ((121) - (1)) = min R (zc + G 5 zp) := by omega
  have y_I : (max (0) (zc)) + (1) = zc + 1 := by omega
  rw [y_E, y_I]
  exact jl_bleast _ (by omega) q_nm q_g q_t q_R q_p q_c q_A rfl (fun zv q_v => ⟨by rw [q_v], rfl⟩) 130 (zc + 1) (A zc) (by omega) (zBx_1 G zp A zc (by omega)).symm (by omega) (by omega)
set_option maxRecDepth 20000 in
set_option maxHeartbeats 4000000 in
theorem jl_bfirst (zd : Nat) (q_d : 3 ≤ zd) {zh : am_H} {N : Int} {G : Int → Int → Int} {S T R : Int} {zp zc : Int} (q_nm : zNm (zh.1 1) (zh.1 2) N G S T) (q_g : zGk N G S T) (q_t : zh.1 18 4 = iN R) (q_R : 0 ≤ R ∧ R ≤ 120) (q_p : 0 ≤ zp ∧ zp < N) (q_c : 0 ≤ zc ∧ zc ≤ R) (q_ls : zh.1 19 (121 * zp + zc).toNat = iN (zVb N G S T R zp zc)) (q_lt : zVb N G S T R zp zc < 1000000000) (q_A : ∀ x : Int, 0 ≤ x → x ≤ R → zh.1 20 x.toNat = iN (zAb N G S T R zp x)) {zQ : Option Value → am_H → Prop} (zk : ∀ zv : Int, zv = zc + zPk N G S T R zp zc → zQ (some (.int (iN zv))) zh) : ∀ (z_n : Nat) (zi : Int) (q_i : zc + 1 ≤ zi) (q_k : zi - zc ≤ zPk N G S T R zp zc), R + 1 - zi < (z_n : Int) → am_wp zd am_m_Bounded_firstOfLeast 60 [(0, .ref 18), (1, .ref 1), (2, .int (iN (zp))), (3, .int (iN (zc))), (4, .int (iN (zVb N G S T R zp zc))), (5, .int (iN (G 1 zp))), (6, .int (iN (G 2 zp))), (7, .int (iN (min R (zc + G 5 zp)))), (8, .int (iN (zi)))] [] (78, 76) zh (78, 76) zQ := by
  obtain ⟨zd, rfl⟩ : ∃ y_e, zd = y_e + 3 := ⟨zd - 3, by omega⟩
  intro z_n
  induction z_n with
  | zero =>
    intro zi q_i q_k q_m
    have y_pk := zPk_ok q_g q_R q_p q_c q_lt
    omega
  | succ z_n z_ih =>
    intro zi q_i q_k q_m
    have q_N := q_g.1
    have q_S := q_g.2.2.1
    have q_T := q_g.2.2.2
    have y_1 := q_g.2.1 1 zp (by omega) (by omega) (by omega) (by omega)
    have y_2 := q_g.2.1 2 zp (by omega) (by omega) (by omega) (by omega)
    have y_w1 := (show vmax 1 = 999 from rfl)
    have y_w2 := (show vmax 2 = 99 from rfl)
    have y_5 := q_g.2.1 5 zp (by omega) (by omega) (by omega) (by omega)
    have y_v := (show vmax 5 = 999 from rfl)
    have y_pk := zPk_ok q_g q_R q_p q_c q_lt
    have y_vb := zVb_r q_g q_R (p := zp) (c := zc) (by omega) q_c
    have y_y0 : zBy G zp (zAb N G S T R zp) zc 0 = zAb N G S T R zp zc := by unfold zBy; rw [show zc + 0 = zc by omega, if_neg (by omega), Int.add_zero]
    have y_Ac := zAb_r q_g q_R (p := zp) (c := zc) q_p q_c
    refine wp_run (k := 2) (pc1 := 64) (l1 := [(0, .ref 18), (1, .ref 1), (2, .int (iN (zp))), (3, .int (iN (zc))), (4, .int (iN (zVb N G S T R zp zc))), (5, .int (iN (G 1 zp))), (6, .int (iN (G 2 zp))), (7, .int (iN (min R (zc + G 5 zp)))), (8, .int (iN (zi)))]) (st1 := [.int (iN (min R (zc + G 5 zp))), .int (iN (zi))]) (kr1 := (78, 76)) (h1 := zh) rfl ?_
    refine wp_ge (a := zi) (b := min R (zc + G 5 zp)) rfl (by omega) (by omega) (fun b_64 => ?_) (fun b_64 => ?_)
    · refine wp_run (k := 1) (pc1 := 103) (l1 := [(0, .ref 18), (1, .ref 1), (2, .int (iN (zp))), (3, .int (iN (zc))), (4, .int (iN (zVb N G S T R zp zc))), (5, .int (iN (G 1 zp))), (6, .int (iN (G 2 zp))), (7, .int (iN (min R (zc + G 5 zp)))), (8, .int (iN (zi)))]) (st1 := [.int (iN (min R (zc + G 5 zp)))]) (kr1 := (78, 76)) (h1 := zh) rfl ?_
      refine wp_ret (rv := some (.int (iN (min R (zc + G 5 zp))))) rfl ?_
      refine zk _ ?_
      omega
    · have y_A := zAb_r q_g q_R (p := zp) (c := zi) q_p (by omega)
      have y_m := zmul_rg (x := G 2 zp) (X := 99) (y := zi - zc) (Y := 120) (by omega) (by omega)
      have y_by : zBy G zp (zAb N G S T R zp) zc (zi - zc) = zAb N G S T R zp zi + (G 1 zp + G 2 zp * (zi - zc)) := by unfold zBy; rw [show zc + (zi - zc) = zi by omega, if_pos (by omega)]
      have y_st := y_pk.2.2.2.2.2.1 (zi - zc) (by omega)
      rw [y_by, show zc + (zi - zc) = zi by omega] at y_st
      refine wp_run (k := 3) (pc1 := 73) (l1 := [(0, .ref 18), (1, .ref 1), (2, .int (iN (zp))), (3, .int (iN (zc))), (4, .int (iN (zVb N G S T R zp zc))), (5, .int (iN (G 1 zp))), (6, .int (iN (G 2 zp))), (7, .int (iN (min R (zc + G 5 zp)))), (8, .int (iN (zi)))]) (st1 := [.int (iN (zi)), .ref 20]) (kr1 := (78, 76)) (h1 := zh) rfl ?_
      refine wp_call (md1 := am_m_Lp_at) (As := [.ref 20, .int (iN (zi))]) (rest := []) (kr1 := (78, 76)) rfl (jt_at _ (by omega) (zn := 121) (zi := zi) (zv := iN (zAb N G S T R zp zi)) rfl rfl (by decide) (by omega) (by omega) (q_A zi (by omega) (by omega))) ?_
      rintro _ _ ⟨rfl, rfl⟩
      refine wp_run (k := 9) (pc1 := 89) (l1 := [(0, .ref 18), (1, .ref 1), (2, .int (iN (zp))), (3, .int (iN (zc))), (4, .int (iN (zVb N G S T R zp zc))), (5, .int (iN (G 1 zp))), (6, .int (iN (G 2 zp))), (7, .int (iN (min R (zc + G 5 zp)))), (8, .int (iN (zi)))]) (st1 := [.int (iN (zVb N G S T R zp zc)), .int (iN (((zAb N G S T R zp zi) + (G 1 zp)) + ((G 2 zp) * ((zi) - (zc)))))]) (kr1 := (78, 76)) (h1 := zh) (Eq.trans (b := (some (89, [(0, .ref 18), (1, .ref 1), (2, .int (iN (zp))), (3, .int (iN (zc))), (4, .int (iN (zVb N G S T R zp zc))), (5, .int (iN (G 1 zp))), (6, .int (iN (G 2 zp))), (7, .int (iN (min R (zc + G 5 zp)))), (8, .int (iN (zi)))], [.int (iN (zVb N G S T R zp zc)), .int (((iN (zAb N G S T R zp zi)) + (iN (G 1 zp))) + ((iN (G 2 zp)) * ((iN (zi)) - (iN (zc)))))], (78, 76), zh) : Option am_C)) rfl (by simp only [Int32.ofInt_add, Int32.ofInt_sub, Int32.ofInt_mul, Int32.ofInt_neg])) ?_
      refine wp_ne (a := ((zAb N G S T R zp zi) + (G 1 zp)) + ((G 2 zp) * ((zi) - (zc)))) (b := zVb N G S T R zp zc) rfl (by omega) (by omega) (fun b_89 => ?_) (fun b_89 => ?_)
      · refine wp_run (k := 2) (pc1 := 60) (l1 := [(0, .ref 18), (1, .ref 1), (2, .int (iN (zp))), (3, .int (iN (zc))), (4, .int (iN (zVb N G S T R zp zc))), (5, .int (iN (G 1 zp))), (6, .int (iN (G 2 zp))), (7, .int (iN (min R (zc + G 5 zp)))), (8, .int (iN ((zi) + 1)))]) (st1 := []) (kr1 := (78, 76)) (h1 := zh) (Eq.trans (b := (some (60, [(0, .ref 18), (1, .ref 1), (2, .int (iN (zp))), (3, .int (iN (zc))), (4, .int (iN (zVb N G S T R zp zc))), (5, .int (iN (G 1 zp))), (6, .int (iN (G 2 zp))), (7, .int (iN (min R (zc + G 5 zp)))), (8, .int ((iN (zi)) + iN (1)))], [], (78, 76), zh) : Option am_C)) rfl (by simp only [Int32.ofInt_add, Int32.ofInt_sub, Int32.ofInt_mul, Int32.ofInt_neg])) ?_
        refine z_ih (zi + 1) (by omega) ?_ (by omega)
        have y_ne : ¬ zi - zc = zPk N G S T R zp zc := by
          intro y
          have y_q := y_pk.2.2.2.2.1
          rw [← y, y_by] at y_q
          omega
        omega
      · refine wp_run (k := 1) (pc1 := 94) (l1 := [(0, .ref 18), (1, .ref 1), (2, .int (iN (zp))), (3, .int (iN (zc))), (4, .int (iN (zVb N G S T R zp zc))), (5, .int (iN (G 1 zp))), (6, .int (iN (G 2 zp))), (7, .int (iN (min R (zc + G 5 zp)))), (8, .int (iN (zi)))]) (st1 := [.int (iN (zi))]) (kr1 := (78, 76)) (h1 := zh) rfl ?_
        refine wp_ret (rv := some (.int (iN (zi)))) rfl ?_
        refine zk _ ?_
        by_cases y : zi - zc < zPk N G S T R zp zc
        · have := y_st y (by omega); omega
        · omega
set_option maxRecDepth 20000 in
set_option maxHeartbeats 4000000 in
theorem jt_bfirst (zd : Nat) (q_d : 3 ≤ zd) {zh : am_H} {N : Int} {G : Int → Int → Int} {S T R : Int} {zp zc : Int} (q_nm : zNm (zh.1 1) (zh.1 2) N G S T) (q_g : zGk N G S T) (q_t : zh.1 18 4 = iN R) (q_R : 0 ≤ R ∧ R ≤ 120) (q_p : 0 ≤ zp ∧ zp < N) (q_c : 0 ≤ zc ∧ zc ≤ R) (q_ls : zh.1 19 (121 * zp + zc).toNat = iN (zVb N G S T R zp zc)) (q_lt : zVb N G S T R zp zc < 1000000000) (q_A : ∀ x : Int, 0 ≤ x → x ≤ R → zh.1 20 x.toNat = iN (zAb N G S T R zp x)) : am_wp zd am_m_Bounded_firstOfLeast 0 [(0, .ref 18), (1, .ref 1), (2, .int (iN (zp))), (3, .int (iN (zc)))] [] (78, 76) zh (78, 76) (fun rv h' => rv = some (.int (iN (zc + zPk N G S T R zp zc))) ∧ zh = h') := by
  obtain ⟨zd, rfl⟩ : ∃ y_e, zd = y_e + 3 := ⟨zd - 3, by omega⟩
  have q_N := q_g.1
  have q_S := q_g.2.2.1
  have q_T := q_g.2.2.2
  have y_1 := q_g.2.1 1 zp (by omega) (by omega) (by omega) (by omega)
  have y_2 := q_g.2.1 2 zp (by omega) (by omega) (by omega) (by omega)
  have y_w1 := (show vmax 1 = 999 from rfl)
  have y_w2 := (show vmax 2 = 99 from rfl)
  have y_5 := q_g.2.1 5 zp (by omega) (by omega) (by omega) (by omega)
  have y_v := (show vmax 5 = 999 from rfl)
  have y_pk := zPk_ok q_g q_R q_p q_c q_lt
  have y_vb := zVb_r q_g q_R (p := zp) (c := zc) (by omega) q_c
  have y_y0 : zBy G zp (zAb N G S T R zp) zc 0 = zAb N G S T R zp zc := by unfold zBy; rw [show zc + 0 = zc by omega, if_neg (by omega), Int.add_zero]
  have y_Ac := zAb_r q_g q_R (p := zp) (c := zc) q_p q_c
  refine wp_run (k := 7) (pc1 := 10) (l1 := [(0, .ref 18), (1, .ref 1), (2, .int (iN (zp))), (3, .int (iN (zc)))]) (st1 := [.int (iN (((zp) * (121)) + (zc))), .ref 19]) (kr1 := (78, 76)) (h1 := zh) (Eq.trans (b := (some (10, [(0, .ref 18), (1, .ref 1), (2, .int (iN (zp))), (3, .int (iN (zc)))], [.int (((iN (zp)) * (iN (121))) + (iN (zc))), .ref 19], (78, 76), zh) : Option am_C)) rfl (by simp only [Int32.ofInt_add, Int32.ofInt_sub, Int32.ofInt_mul, Int32.ofInt_neg])) ?_
  refine wp_call (md1 := am_m_Lp_at) (As := [.ref 19, .int (iN (((zp) * (121)) + (zc)))]) (rest := []) (kr1 := (78, 76)) rfl (jt_at _ (by omega) (zn := 2057) (zi := ((zp) * (121)) + (zc)) (zv := iN (zVb N G S T R zp zc)) rfl rfl (by decide) (by omega) (by omega) ((congrArg (zh.1 19) (by omega)).trans q_ls)) ?_
  rintro _ _ ⟨rfl, rfl⟩
  refine wp_run (k := 4) (pc1 := 20) (l1 := [(0, .ref 18), (1, .ref 1), (2, .int (iN (zp))), (3, .int (iN (zc))), (4, .int (iN (zVb N G S T R zp zc)))]) (st1 := [.int (iN (zc)), .ref 20]) (kr1 := (78, 76)) (h1 := zh) rfl ?_
  refine wp_call (md1 := am_m_Lp_at) (As := [.ref 20, .int (iN (zc))]) (rest := []) (kr1 := (78, 76)) rfl (jt_at _ (by omega) (zn := 121) (zi := zc) (zv := iN (zAb N G S T R zp zc)) rfl rfl (by decide) (by omega) (by omega) (q_A zc (by omega) (by omega))) ?_
  rintro _ _ ⟨rfl, rfl⟩
  refine wp_run (k := 1) (pc1 := 25) (l1 := [(0, .ref 18), (1, .ref 1), (2, .int (iN (zp))), (3, .int (iN (zc))), (4, .int (iN (zVb N G S T R zp zc)))]) (st1 := [.int (iN (zVb N G S T R zp zc)), .int (iN (zAb N G S T R zp zc))]) (kr1 := (78, 76)) (h1 := zh) rfl ?_
  refine wp_ne (a := zAb N G S T R zp zc) (b := zVb N G S T R zp zc) rfl (by omega) (by omega) (fun b_25 => ?_) (fun b_25 => ?_)
  · refine wp_run (k := 3) (pc1 := 33) (l1 := [(0, .ref 18), (1, .ref 1), (2, .int (iN (zp))), (3, .int (iN (zc))), (4, .int (iN (zVb N G S T R zp zc)))]) (st1 := [.int (iN (1)), .int (iN (zp)), .ref 1]) (kr1 := (78, 76)) (h1 := zh) rfl ?_
    refine wp_call (md1 := am_m_Numbers_value) (As := [.ref 1, .int (iN (zp)), .int (iN (1))]) (rest := []) (kr1 := (78, 76)) rfl (jt_value_1 _ (by omega) q_nm q_g (zp := zp) (zw := 1) (by omega) (by omega)) ?_
    rintro _ _ ⟨rfl, rfl⟩
    refine wp_run (k := 4) (pc1 := 41) (l1 := [(0, .ref 18), (1, .ref 1), (2, .int (iN (zp))), (3, .int (iN (zc))), (4, .int (iN (zVb N G S T R zp zc))), (5, .int (iN (G (1) (zp))))]) (st1 := [.int (iN (2)), .int (iN (zp)), .ref 1]) (kr1 := (78, 76)) (h1 := zh) rfl ?_
    refine wp_call (md1 := am_m_Numbers_value) (As := [.ref 1, .int (iN (zp)), .int (iN (2))]) (rest := []) (kr1 := (78, 76)) rfl (jt_value_1 _ (by omega) q_nm q_g (zp := zp) (zw := 2) (by omega) (by omega)) ?_
    rintro _ _ ⟨rfl, rfl⟩
    refine wp_run (k := 5) (pc1 := 50) (l1 := [(0, .ref 18), (1, .ref 1), (2, .int (iN (zp))), (3, .int (iN (zc))), (4, .int (iN (zVb N G S T R zp zc))), (5, .int (iN (G (1) (zp)))), (6, .int (iN (G (2) (zp))))]) (st1 := [.int (iN (zc)), .int (iN (zp)), .ref 1, .ref 18]) (kr1 := (78, 76)) (h1 := zh) rfl ?_
    refine wp_call (md1 := am_m_Bounded_mostBehind) (As := [.ref 18, .ref 1, .int (iN (zp)), .int (iN (zc))]) (rest := []) (kr1 := (78, 76)) rfl (jt_bmost _ (by omega) q_nm q_g q_t q_R q_p q_c) ?_
    rintro _ _ ⟨rfl, rfl⟩
    refine wp_run (k := 5) (pc1 := 60) (l1 := [(0, .ref 18), (1, .ref 1), (2, .int (iN (zp))), (3, .int (iN (zc))), (4, .int (iN (zVb N G S T R zp zc))), (5, .int (iN (G (1) (zp)))), (6, .int (iN (G (2) (zp)))), (7, .int (iN (min R (zc + G 5 zp)))), (8, .int (iN ((zc) + (1))))]) (st1 := []) (kr1 := (78, 76)) (h1 := zh) (Eq.trans (b := (some (60, [(0, .ref 18), (1, .ref 1), (2, .int (iN (zp))), (3, .int (iN (zc))), (4, .int (iN (zVb N G S T R zp zc))), (5, .int (iN (G (1) (zp)))), (6, .int (iN (G (2) (zp)))), (7, .int (iN (min R (zc + G 5 zp)))), (8, .int ((iN (zc)) + (iN (1))))], [], (78, 76), zh) : Option am_C)) rfl (by simp only [Int32.ofInt_add, Int32.ofInt_sub, Int32.ofInt_mul, Int32.ofInt_neg])) ?_
    refine jl_bfirst _ (by omega) q_nm q_g q_t q_R q_p q_c q_ls q_lt q_A (fun zv q_v => ⟨by rw [q_v], rfl⟩) 130 (zc + 1) (by omega) ?_ (by omega)
    by_cases y : zPk N G S T R zp zc = 0
    · have y_q := y_pk.2.2.2.2.1
      rw [y, y_y0] at y_q
      omega
    · omega
  · refine wp_run (k := 1) (pc1 := 29) (l1 := [(0, .ref 18), (1, .ref 1), (2, .int (iN (zp))), (3, .int (iN (zc))), (4, .int (iN (zVb N G S T R zp zc)))]) (st1 := [.int (iN (zc))]) (kr1 := (78, 76)) (h1 := zh) rfl ?_
    refine wp_ret (rv := some (.int (iN (zc)))) rfl ?_
    refine ⟨?_, rfl⟩
    have y : zPk N G S T R zp zc = 0 := by
      by_cases y1 : 0 < zPk N G S T R zp zc
      · have y2 := y_pk.2.2.2.2.2.1 0 (by omega) y1 (by rw [show zc + 0 = zc by omega]; omega)
        omega
      · omega
    rw [y, Int.add_zero]
set_option maxRecDepth 20000 in
set_option maxHeartbeats 4000000 in
theorem jl_btake (zd : Nat) (q_d : 4 ≤ zd) {zh : am_H} {N : Int} {G : Int → Int → Int} {S T R : Int} (q_nm : zNm (zh.1 1) (zh.1 2) N G S T) (q_g : zGk N G S T) (q_t : zh.1 18 4 = iN R) (q_R : 0 ≤ R ∧ R ≤ 120) (q_ls : ∀ p c : Int, 0 ≤ p → p ≤ N → 0 ≤ c → c ≤ R → zh.1 19 (121 * p + c).toNat = iN (zVb N G S T R p c)) (q_lt : zVb N G S T R 0 0 < 1000000000) {zQ : Option Value → am_H → Prop} (zk : ∀ zg : am_H, am_fr [20, 21] zh zg → (∀ x : Int, 0 ≤ x → x < N → zg.1 21 x.toNat = iN (zBm N G S T R x)) → zQ none zg) : ∀ (z_n : Nat) (zg : am_H) (zi : Int) (q_f : am_fr [20, 21] zh zg) (q_i : 0 ≤ zi ∧ zi ≤ N) (q_w : ∀ x : Int, 0 ≤ x → x < zi → zg.1 21 x.toNat = iN (zBm N G S T R x)), N - zi < (z_n : Int) → am_wp zd am_m_Bounded_takeMade 4 [(0, .ref 18), (1, .ref 1), (2, .int (iN (zCp N G S T R zi.toNat))), (3, .int (iN (zi)))] [] (78, 76) zg (78, 76) zQ := by
  obtain ⟨zd, rfl⟩ : ∃ y_e, zd = y_e + 4 := ⟨zd - 4, by omega⟩
  intro z_n
  induction z_n with
  | zero => intro zg zi q_f q_i q_w q_m; omega
  | succ z_n z_ih =>
    intro zg zi q_f q_i q_w q_m
    have q_N := q_g.1
    have q_S := q_g.2.2.1
    have q_T := q_g.2.2.2
    refine wp_run (k := 2) (pc1 := 6) (l1 := [(0, .ref 18), (1, .ref 1), (2, .int (iN (zCp N G S T R zi.toNat))), (3, .int (iN (zi)))]) (st1 := [.ref 1, .int (iN (zi))]) (kr1 := (78, 76)) (h1 := zg) rfl ?_
    refine wp_call (md1 := am_m_Numbers_size) (As := [.ref 1]) (rest := [.int (iN (zi))]) (kr1 := (78, 76)) rfl (jt_size_1 _ (by omega) (zNm_f q_f q_nm (by decide) (by decide)) q_g) ?_
    rintro _ _ ⟨rfl, rfl⟩
    refine wp_ge (a := zi) (b := N) rfl (by omega) (by omega) (fun b_9 => ?_) (fun b_9 => ?_)
    · refine wp_ret (rv := none) rfl ?_
      exact zk zg q_f (fun x y1 y2 => q_w x y1 (by omega))
    · have y_c := zCp_ok q_g q_R q_lt zi.toNat (by omega)
      rw [show (zi.toNat : Int) = zi by omega] at y_c
      have y_pk := zPk_ok q_g q_R (p := zi) (c := zCp N G S T R zi.toNat) (by omega) (by omega) y_c.2.2
      refine wp_run (k := 3) (pc1 := 15) (l1 := [(0, .ref 18), (1, .ref 1), (2, .int (iN (zCp N G S T R zi.toNat))), (3, .int (iN (zi)))]) (st1 := [.int (iN (zi)), .ref 1, .ref 18]) (kr1 := (78, 76)) (h1 := zg) rfl ?_
      refine wp_call (md1 := am_m_Bounded_reckonAfter) (As := [.ref 18, .ref 1, .int (iN (zi))]) (rest := []) (kr1 := (78, 76)) rfl (jt_bafter (V := zVb N G S T R (zi + 1)) _ (by omega) (zNm_f q_f q_nm (by decide) (by decide)) q_g ((congrFun (q_f.2 18 (by decide)) 4).trans q_t) q_R (zp := zi) (by omega) (fun c y1 y2 => ⟨(congrFun (q_f.2 19 (by decide)) _).trans (q_ls (zi + 1) c (by omega) (by omega) y1 y2), (zVb_r q_g q_R (by omega) ⟨y1, y2⟩).1, by have := (zVb_r (S := S) (T := T) q_g q_R (p := zi + 1) (c := c) (by omega) ⟨y1, y2⟩).2; omega⟩)) ?_
      rintro _ zg1 ⟨rfl, q_f1a, q_a1⟩
      have q_f1 : am_fr [20, 21] zh zg1 := am_fr_t q_f (am_fr_m q_f1a (fun c y => by simp only [List.mem_cons, List.not_mem_nil, or_false] at y ⊢; omega))
      refine wp_run (k := 4) (pc1 := 22) (l1 := [(0, .ref 18), (1, .ref 1), (2, .int (iN (zCp N G S T R zi.toNat))), (3, .int (iN (zi)))]) (st1 := [.int (iN (zCp N G S T R zi.toNat)), .int (iN (zi)), .ref 1, .ref 18]) (kr1 := (78, 76)) (h1 := zg1) rfl ?_
      refine wp_call (md1 := am_m_Bounded_firstOfLeast) (As := [.ref 18, .ref 1, .int (iN (zi)), .int (iN (zCp N G S T R zi.toNat))]) (rest := []) (kr1 := (78, 76)) rfl (jt_bfirst _ (by omega) (zNm_f q_f1 q_nm (by decide) (by decide)) q_g ((congrFun (q_f1.2 18 (by decide)) 4).trans q_t) q_R (zp := zi) (zc := zCp N G S T R zi.toNat) (by omega) (by omega) ((congrFun (q_f1.2 19 (by decide)) _).trans (q_ls zi (zCp N G S T R zi.toNat) (by omega) (by omega) (by omega) (by omega))) y_c.2.2 q_a1) ?_
      rintro _ _ ⟨rfl, rfl⟩
      refine wp_run (k := 7) (pc1 := 36) (l1 := [(0, .ref 18), (1, .ref 1), (2, .int (iN (zCp N G S T R zi.toNat))), (3, .int (iN (zi))), (4, .int (iN (zCp N G S T R zi.toNat + zPk N G S T R zi (zCp N G S T R zi.toNat))))]) (st1 := [.int (iN ((zCp N G S T R zi.toNat + zPk N G S T R zi (zCp N G S T R zi.toNat)) - (zCp N G S T R zi.toNat))), .int (iN (zi)), .ref 21]) (kr1 := (78, 76)) (h1 := zg1) (Eq.trans (b := (some (36, [(0, .ref 18), (1, .ref 1), (2, .int (iN (zCp N G S T R zi.toNat))), (3, .int (iN (zi))), (4, .int (iN (zCp N G S T R zi.toNat + zPk N G S T R zi (zCp N G S T R zi.toNat))))], [.int ((iN (zCp N G S T R zi.toNat + zPk N G S T R zi (zCp N G S T R zi.toNat))) - (iN (zCp N G S T R zi.toNat))), .int (iN (zi)), .ref 21], (78, 76), zg1) : Option am_C)) rfl (by simp only [Int32.ofInt_add, Int32.ofInt_sub, Int32.ofInt_mul, Int32.ofInt_neg])) ?_
      refine wp_call (md1 := am_m_Lp_lay) (As := [.ref 21, .int (iN (zi)), .int (iN ((zCp N G S T R zi.toNat + zPk N G S T R zi (zCp N G S T R zi.toNat)) - (zCp N G S T R zi.toNat)))]) (rest := []) (kr1 := (78, 76)) rfl (jt_lay _ (by omega) (zn := 16) (zi := zi) (zv := iN ((zCp N G S T R zi.toNat + zPk N G S T R zi (zCp N G S T R zi.toNat)) - (zCp N G S T R zi.toNat))) (by decide) (by decide) rfl rfl rfl (by decide) (by omega) (by omega)) ?_
      rintro _ _ ⟨rfl, rfl⟩
      refine wp_run (k := 4) (pc1 := 4) (l1 := [(0, .ref 18), (1, .ref 1), (2, .int (iN (zCp N G S T R zi.toNat + zPk N G S T R zi (zCp N G S T R zi.toNat)))), (3, .int (iN ((zi) + 1))), (4, .int (iN (zCp N G S T R zi.toNat + zPk N G S T R zi (zCp N G S T R zi.toNat))))]) (st1 := []) (kr1 := (78, 76)) (h1 := am_wr zg1 21 (zi : Int).toNat (iN ((zCp N G S T R zi.toNat + zPk N G S T R zi (zCp N G S T R zi.toNat)) - (zCp N G S T R zi.toNat)))) (Eq.trans (b := (some (4, [(0, .ref 18), (1, .ref 1), (2, .int (iN (zCp N G S T R zi.toNat + zPk N G S T R zi (zCp N G S T R zi.toNat)))), (3, .int ((iN (zi)) + iN (1))), (4, .int (iN (zCp N G S T R zi.toNat + zPk N G S T R zi (zCp N G S T R zi.toNat))))], [], (78, 76), am_wr zg1 21 (zi : Int).toNat (iN ((zCp N G S T R zi.toNat + zPk N G S T R zi (zCp N G S T R zi.toNat)) - (zCp N G S T R zi.toNat)))) : Option am_C)) rfl (by simp only [Int32.ofInt_add, Int32.ofInt_sub, Int32.ofInt_mul, Int32.ofInt_neg])) ?_
      refine wp_drop [4] (l := [(0, .ref 18), (1, .ref 1), (2, .int (iN (zCp N G S T R zi.toNat + zPk N G S T R zi (zCp N G S T R zi.toNat)))), (3, .int (iN ((zi) + 1)))]) rfl rfl ?_
      have y_cs : zCp N G S T R (zi + 1).toNat = zCp N G S T R zi.toNat + zPk N G S T R zi (zCp N G S T R zi.toNat) := by rw [show (zi + 1).toNat = zi.toNat + 1 by omega]; show zCp N G S T R zi.toNat + zPk N G S T R (zi.toNat : Int) (zCp N G S T R zi.toNat) = _; rw [show (zi.toNat : Int) = zi by omega]
      rw [← y_cs]
      refine z_ih (am_wr zg1 21 (zi : Int).toNat (iN ((zCp N G S T R (zi + 1).toNat) - (zCp N G S T R zi.toNat)))) (zi + 1) (am_fr_w q_f1 (by decide) _ _) (by omega) (fun x y1 y2 => ?_) (by omega)
      by_cases y3 : x = zi
      · rw [y3, am_wr_at, show zBm N G S T R zi = zPk N G S T R zi (zCp N G S T R zi.toNat) from if_pos (by omega)]; exact congrArg iN (by omega)
      · rw [am_wr_no (by omega), q_f1a.2 21 (by decide)]; exact q_w x y1 (by omega)
set_option maxRecDepth 20000 in
set_option maxHeartbeats 4000000 in
theorem jt_btake (zd : Nat) (q_d : 4 ≤ zd) {zh : am_H} {N : Int} {G : Int → Int → Int} {S T R : Int} (q_nm : zNm (zh.1 1) (zh.1 2) N G S T) (q_g : zGk N G S T) (q_t : zh.1 18 4 = iN R) (q_R : 0 ≤ R ∧ R ≤ 120) (q_ls : ∀ p c : Int, 0 ≤ p → p ≤ N → 0 ≤ c → c ≤ R → zh.1 19 (121 * p + c).toNat = iN (zVb N G S T R p c)) (q_lt : zVb N G S T R 0 0 < 1000000000) : am_wp zd am_m_Bounded_takeMade 0 [(0, .ref 18), (1, .ref 1)] [] (78, 76) zh (78, 76) (fun rv h' => rv = none ∧ am_fr [20, 21] zh h' ∧ ∀ x : Int, 0 ≤ x → x < N → h'.1 21 x.toNat = iN (zBm N G S T R x)) := by
  obtain ⟨zd, rfl⟩ : ∃ y_e, zd = y_e + 4 := ⟨zd - 4, by omega⟩
  have q_N := q_g.1
  have q_S := q_g.2.2.1
  have q_T := q_g.2.2.2
  refine wp_run (k := 4) (pc1 := 4) (l1 := [(0, .ref 18), (1, .ref 1), (2, .int (iN (0))), (3, .int (iN (0)))]) (st1 := []) (kr1 := (78, 76)) (h1 := zh) rfl ?_
  exact jl_btake _ (by omega) q_nm q_g q_t q_R q_ls q_lt (fun zg y1 y2 => ⟨rfl, y1, y2⟩) 20 zh 0 (am_fr_0 _ _) (by omega) (fun x y1 y2 => by omega) (by omega)
