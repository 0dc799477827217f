/-! THE CLASS's Lots: reckonMadeIn -/
theorem zHe_dd (G : Int → Int → Int) (a b : Int) (q_a : 0 ≤ a) (q_b : a ≤ b) : zHe G a b = zHe G a (b - 1) + (zSi (G 3) b - zSi (G 3) a) * G 0 b := by
  by_cases q : a = b
  · subst q
    rw [zHe_0, Int.sub_self, Int.zero_mul]
    unfold zHe
    rw [show (a - 1 - a).toNat = 0 by omega]
    rfl
  · exact zHe_d G a b q_a (by omega)
theorem zEn_off2 {cC cM cS : Nat} {zh zg : am_H} {G : Int → Int → Int} {T a b m : Int} {k : Nat} (q_d : cC ≠ cM ∧ cC ≠ cS ∧ cM ≠ cS) (q : zEn cC cM cS zh G T a b k) (q_m : a + (k : Int) = m) (q_l : zIsL G T a b m) (q_v : zCo G a b m < 1000000000) (q_o : zOff cC cM cS zh (16 * a + b) m (zCo G a b m) (zLc G T a b k) zg) : zEn cC cM cS zg G T a b (k + 1) := by
  subst q_m
  exact zEn_off q_d q q_l q_v q_o
set_option maxRecDepth 20000 in
set_option maxHeartbeats 4000000 in
theorem jl_madeIn_4 (zd : Nat) (q_d : 2 ≤ zd) {zh : am_H} {N : Int} {G : Int → Int → Int} {S T : Int} {za zm zo : Int} {K : Int → Int → Nat} (q_nm : zNm (zh.1 1) (zh.1 2) N G S T) (q_g : zGk N G S T) (q_ah : ∀ k : Int, 0 ≤ k → k ≤ N → zh.1 8 k.toNat = iN (zPi G k)) (q_K : ∀ b : Int, zm ≤ b → b < N → K za b = (zm - za).toNat) (q_0 : 0 ≤ za ∧ za ≤ zm ∧ zm < N) (q_l : T = 1 ∨ zD G za (zm - 1) = 0) (q_o : zo = zOw G za zm) {zQ : Option Value → am_H → Prop} (zk : ∀ zg : am_H, am_fr [5, 6, 7] zh zg → (∀ a b : Int, 0 ≤ a → a ≤ b → b < N → zEn 5 6 7 zg G T a b (if a = za ∧ zm ≤ b then K a b + 1 else K a b)) → zQ none zg) : ∀ (z_n : Nat) (zg : am_H) (zb : Int) (zl : Int) (zk1 : Int) (q_f : am_fr [5, 6, 7] zh zg) (q_b : zm ≤ zb ∧ zb ≤ N) (q_e : ∀ a b : Int, 0 ≤ a → a ≤ b → b < N → zEn 5 6 7 zg G T a b (if a = za ∧ zm ≤ b ∧ b < zb then K a b + 1 else K a b)) (q_h : zl = zHe G zm (zb - 1)) (q_k : zk1 = zSi (G 3) zb - zSi (G 3) zm), N - zb < (z_n : Int) → am_wp zd am_m_Lots_reckonMadeIn 25 [(0, .ref 4), (1, .ref 1), (2, .int (iN (za))), (3, .int (iN (zm))), (4, .int (iN (zo))), (5, .int (iN (G 1 zm))), (6, .int (iN (G 2 zm))), (7, .int (iN (zl))), (8, .int (iN (zk1))), (9, .int (iN (zb)))] [] (78, 76) zg (78, 76) zQ := by
  obtain ⟨zd, rfl⟩ : ∃ y_e, zd = y_e + 2 := ⟨zd - 2, by omega⟩
  intro z_n
  induction z_n with
  | zero => intro zg zb zl zk1 q_f q_b q_e q_h q_k q_m; omega
  | succ z_n z_ih =>
    intro zg zb zl zk1 q_f q_b q_e q_h q_k q_m
    have q_N := q_g.1
    have q_nm1 := zNm_f q_f q_nm (by decide) (by decide)
    have q_ah1 : ∀ k : Int, 0 ≤ k → k ≤ N → zg.1 8 k.toNat = iN (zPi G k) := by rw [q_f.2 8 (by decide)]; exact q_ah
    refine wp_run (k := 2) (pc1 := 28) (l1 := [(0, .ref 4), (1, .ref 1), (2, .int (iN (za))), (3, .int (iN (zm))), (4, .int (iN (zo))), (5, .int (iN (G 1 zm))), (6, .int (iN (G 2 zm))), (7, .int (iN (zl))), (8, .int (iN (zk1))), (9, .int (iN (zb)))]) (st1 := [.ref 1, .int (iN (zb))]) (kr1 := (78, 76)) (h1 := zg) rfl ?_
    refine wp_call (md1 := am_m_Numbers_size) (As := [.ref 1]) (rest := [.int (iN (zb))]) (kr1 := (78, 76)) rfl (jt_size_1 _ (by omega) q_nm1 q_g) ?_
    rintro _ _ ⟨rfl, rfl⟩
    refine wp_ge (a := zb) (b := N) rfl (by omega) (by omega) (fun b_31 => ?_) (fun b_31 => ?_)
    · refine wp_ret (rv := none) rfl ?_
      refine zk zg q_f (fun a b y1 y2 y3 => ?_)
      have y5 := q_e a b y1 y2 y3
      rwa [show (if a = za ∧ zm ≤ b ∧ b < zb then K a b + 1 else K a b) = (if a = za ∧ zm ≤ b then K a b + 1 else K a b) from by (repeat' split) <;> first | rfl | omega] at y5
    · have y_e : zEn 5 6 7 zg G T za zb (zm - za).toNat := by
        have y_1 := q_e za zb (by omega) (by omega) (by omega)
        rwa [if_neg (by omega), q_K zb (by omega) (by omega)] at y_1
      have y_c := zCo_rg q_g (a := za) (b := zb) (m := zm) (by omega) (by omega) (by omega) (by omega)
      have y_z := zLc_rg (T := T) q_g (a := za) (b := zb) (by omega) (by omega) (zm - za).toNat (by omega)
      have y_d := zD_rg q_g (a := za) (b := zb) (by omega) (by omega) (by omega)
      refine wp_run (k := 5) (pc1 := 42) (l1 := [(0, .ref 4), (1, .ref 1), (2, .int (iN (za))), (3, .int (iN (zm))), (4, .int (iN (zo))), (5, .int (iN (G 1 zm))), (6, .int (iN (G 2 zm))), (7, .int (iN (zl))), (8, .int (iN (zk1))), (9, .int (iN (zb)))]) (st1 := [.int (iN (0)), .int (iN (zb)), .ref 1, .int (iN (zk1)), .int (iN (zl))]) (kr1 := (78, 76)) (h1 := zg) rfl ?_
      refine wp_call (md1 := am_m_Numbers_value) (As := [.ref 1, .int (iN (zb)), .int (iN (0))]) (rest := [.int (iN (zk1)), .int (iN (zl))]) (kr1 := (78, 76)) rfl (jt_value_1 _ (by omega) q_nm1 q_g (zp := zb) (zw := 0) (by omega) (by omega)) ?_
      rintro _ _ ⟨rfl, rfl⟩
      refine wp_run (k := 7) (pc1 := 55) (l1 := [(0, .ref 4), (1, .ref 1), (2, .int (iN (za))), (3, .int (iN (zm))), (4, .int (iN (zo))), (5, .int (iN (G 1 zm))), (6, .int (iN (G 2 zm))), (7, .int (iN ((zl) + ((zk1) * (G (0) (zb)))))), (8, .int (iN (zk1))), (9, .int (iN (zb)))]) (st1 := [.int (iN (3)), .int (iN (zb)), .ref 1, .int (iN (zk1))]) (kr1 := (78, 76)) (h1 := zg) (Eq.trans (b := (some (55, [(0, .ref 4), (1, .ref 1), (2, .int (iN (za))), (3, .int (iN (zm))), (4, .int (iN (zo))), (5, .int (iN (G 1 zm))), (6, .int (iN (G 2 zm))), (7, .int ((iN (zl)) + ((iN (zk1)) * (iN (G (0) (zb)))))), (8, .int (iN (zk1))), (9, .int (iN (zb)))], [.int (iN (3)), .int (iN (zb)), .ref 1, .int (iN (zk1))], (78, 76), zg) : Option am_C)) rfl (by simp only [Int32.ofInt_add, Int32.ofInt_sub, Int32.ofInt_mul, Int32.ofInt_neg])) ?_
      refine wp_call (md1 := am_m_Numbers_value) (As := [.ref 1, .int (iN (zb)), .int (iN (3))]) (rest := [.int (iN (zk1))]) (kr1 := (78, 76)) rfl (jt_value_1 _ (by omega) q_nm1 q_g (zp := zb) (zw := 3) (by omega) (by omega)) ?_
      rintro _ _ ⟨rfl, rfl⟩
      refine wp_run (k := 5) (pc1 := 65) (l1 := [(0, .ref 4), (1, .ref 1), (2, .int (iN (za))), (3, .int (iN (zm))), (4, .int (iN (zo))), (5, .int (iN (G 1 zm))), (6, .int (iN (G 2 zm))), (7, .int (iN ((zl) + ((zk1) * (G (0) (zb)))))), (8, .int (iN ((zk1) + (G (3) (zb))))), (9, .int (iN (zb)))]) (st1 := [.int (iN (zb)), .int (iN (za)), .ref 4]) (kr1 := (78, 76)) (h1 := zg) (Eq.trans (b := (some (65, [(0, .ref 4), (1, .ref 1), (2, .int (iN (za))), (3, .int (iN (zm))), (4, .int (iN (zo))), (5, .int (iN (G 1 zm))), (6, .int (iN (G 2 zm))), (7, .int (iN ((zl) + ((zk1) * (G (0) (zb)))))), (8, .int ((iN (zk1)) + (iN (G (3) (zb))))), (9, .int (iN (zb)))], [.int (iN (zb)), .int (iN (za)), .ref 4], (78, 76), zg) : Option am_C)) rfl (by simp only [Int32.ofInt_add, Int32.ofInt_sub, Int32.ofInt_mul, Int32.ofInt_neg])) ?_
      refine wp_call (md1 := am_m_Lots_pieces) (As := [.ref 4, .int (iN (za)), .int (iN (zb))]) (rest := []) (kr1 := (78, 76)) rfl (jt_lpieces_4 _ (by omega) q_ah1 q_N.2 (za := za) (zb := zb) (by omega)) ?_
      rintro _ _ ⟨rfl, rfl⟩
      refine wp_run (k := 2) (pc1 := 72) (l1 := [(0, .ref 4), (1, .ref 1), (2, .int (iN (za))), (3, .int (iN (zm))), (4, .int (iN (zo))), (5, .int (iN (G 1 zm))), (6, .int (iN (G 2 zm))), (7, .int (iN ((zl) + ((zk1) * (G (0) (zb)))))), (8, .int (iN ((zk1) + (G (3) (zb))))), (9, .int (iN (zb))), (10, .int (iN (zD G (za) (zb))))]) (st1 := [.int (iN (zD G (za) (zb)))]) (kr1 := (78, 76)) (h1 := zg) rfl ?_
      refine wp_le0 (a := zD G (za) (zb)) rfl (by omega) (fun b_72 => ?_) (fun b_72 => ?_)
      · refine wp_run (k := 2) (pc1 := 25) (l1 := [(0, .ref 4), (1, .ref 1), (2, .int (iN (za))), (3, .int (iN (zm))), (4, .int (iN (zo))), (5, .int (iN (G 1 zm))), (6, .int (iN (G 2 zm))), (7, .int (iN ((zl) + ((zk1) * (G (0) (zb)))))), (8, .int (iN ((zk1) + (G (3) (zb))))), (9, .int (iN ((zb) + 1))), (10, .int (iN (zD G (za) (zb))))]) (st1 := []) (kr1 := (78, 76)) (h1 := zg) (Eq.trans (b := (some (25, [(0, .ref 4), (1, .ref 1), (2, .int (iN (za))), (3, .int (iN (zm))), (4, .int (iN (zo))), (5, .int (iN (G 1 zm))), (6, .int (iN (G 2 zm))), (7, .int (iN ((zl) + ((zk1) * (G (0) (zb)))))), (8, .int (iN ((zk1) + (G (3) (zb))))), (9, .int ((iN (zb)) + iN (1))), (10, .int (iN (zD G (za) (zb))))], [], (78, 76), zg) : Option am_C)) rfl (by simp only [Int32.ofInt_add, Int32.ofInt_sub, Int32.ofInt_mul, Int32.ofInt_neg])) ?_
        refine wp_drop [10] (l := [(0, .ref 4), (1, .ref 1), (2, .int (iN (za))), (3, .int (iN (zm))), (4, .int (iN (zo))), (5, .int (iN (G 1 zm))), (6, .int (iN (G 2 zm))), (7, .int (iN ((zl) + ((zk1) * (G (0) (zb)))))), (8, .int (iN ((zk1) + (G (3) (zb))))), (9, .int (iN ((zb) + 1)))]) rfl rfl ?_
        exact z_ih zg (zb + 1) ((zl) + ((zk1) * (G (0) (zb)))) ((zk1) + (G (3) (zb))) (q_f) (by omega) (fun a b y1 y2 y3 => by
          by_cases y4 : a = za ∧ b = zb
          · rw [y4.1, y4.2, if_pos ⟨rfl, by omega, by omega⟩, q_K zb (by omega) (by omega)]
            exact zEn_no y_e (fun y => by have y_1 := y.1; omega)
          · have y5 := q_e a b y1 y2 y3
            rw [show (if a = za ∧ zm ≤ b ∧ b < zb + 1 then K a b + 1 else K a b) = (if a = za ∧ zm ≤ b ∧ b < zb then K a b + 1 else K a b) from by (repeat' split) <;> first | rfl | omega]
            exact y5)
          (by rw [show zb + 1 - 1 = zb by omega, zHe_dd G zm zb (by omega) (by omega), q_h, q_k]) (by rw [zSi_s (G 3) zb (by omega), q_k]; omega) (by omega)
      · refine wp_run (k := 16) (pc1 := 98) (l1 := [(0, .ref 4), (1, .ref 1), (2, .int (iN (za))), (3, .int (iN (zm))), (4, .int (iN (zo))), (5, .int (iN (G 1 zm))), (6, .int (iN (G 2 zm))), (7, .int (iN ((zl) + ((zk1) * (G (0) (zb)))))), (8, .int (iN ((zk1) + (G (3) (zb))))), (9, .int (iN (zb))), (10, .int (iN (zD G (za) (zb))))]) (st1 := [.int (iN ((((G 1 zm) + ((G 2 zm) * (zD G (za) (zb)))) + ((zl) + ((zk1) * (G (0) (zb))))) + (zo))), .int (iN (zm)), .int (iN (((za) * (16)) + (zb))), .ref 4]) (kr1 := (78, 76)) (h1 := zg) (Eq.trans (b := (some (98, [(0, .ref 4), (1, .ref 1), (2, .int (iN (za))), (3, .int (iN (zm))), (4, .int (iN (zo))), (5, .int (iN (G 1 zm))), (6, .int (iN (G 2 zm))), (7, .int (iN ((zl) + ((zk1) * (G (0) (zb)))))), (8, .int (iN ((zk1) + (G (3) (zb))))), (9, .int (iN (zb))), (10, .int (iN (zD G (za) (zb))))], [.int ((((iN (G 1 zm)) + ((iN (G 2 zm)) * (iN (zD G (za) (zb))))) + (iN ((zl) + ((zk1) * (G (0) (zb)))))) + (iN (zo))), .int (iN (zm)), .int (((iN (za)) * (iN (16))) + (iN (zb))), .ref 4], (78, 76), zg) : Option am_C)) rfl (by simp only [Int32.ofInt_add, Int32.ofInt_sub, Int32.ofInt_mul, Int32.ofInt_neg])) ?_
        rw [show (((G 1 zm) + ((G 2 zm) * (zD G (za) (zb)))) + ((zl) + ((zk1) * (G (0) (zb))))) + (zo) = zCo G za zb zm from by unfold zCo; rw [zHe_dd G zm zb (by omega) (by omega), q_h, q_k, q_o], show ((za) * (16)) + (zb) = 16 * za + zb by omega]
        refine wp_call (md1 := am_m_Lots_offer) (As := [.ref 4, .int (iN (16 * za + zb)), .int (iN (zm)), .int (iN (zCo G za zb zm))]) (rest := []) (kr1 := (78, 76)) rfl (jt_offer_4 _ (by omega) (zi := 16 * za + zb) (zm := zm) (zv := zCo G za zb zm) (zc := zLc G T za zb (zm - za).toNat) (by omega) y_e.1 (by omega) (by omega)) ?_
        rintro _ zg1 ⟨rfl, q_off⟩
        refine wp_run (k := 2) (pc1 := 25) (l1 := [(0, .ref 4), (1, .ref 1), (2, .int (iN (za))), (3, .int (iN (zm))), (4, .int (iN (zo))), (5, .int (iN (G 1 zm))), (6, .int (iN (G 2 zm))), (7, .int (iN ((zl) + ((zk1) * (G (0) (zb)))))), (8, .int (iN ((zk1) + (G (3) (zb))))), (9, .int (iN ((zb) + 1))), (10, .int (iN (zD G (za) (zb))))]) (st1 := []) (kr1 := (78, 76)) (h1 := zg1) (Eq.trans (b := (some (25, [(0, .ref 4), (1, .ref 1), (2, .int (iN (za))), (3, .int (iN (zm))), (4, .int (iN (zo))), (5, .int (iN (G 1 zm))), (6, .int (iN (G 2 zm))), (7, .int (iN ((zl) + ((zk1) * (G (0) (zb)))))), (8, .int (iN ((zk1) + (G (3) (zb))))), (9, .int ((iN (zb)) + iN (1))), (10, .int (iN (zD G (za) (zb))))], [], (78, 76), zg1) : Option am_C)) rfl (by simp only [Int32.ofInt_add, Int32.ofInt_sub, Int32.ofInt_mul, Int32.ofInt_neg])) ?_
        refine wp_drop [10] (l := [(0, .ref 4), (1, .ref 1), (2, .int (iN (za))), (3, .int (iN (zm))), (4, .int (iN (zo))), (5, .int (iN (G 1 zm))), (6, .int (iN (G 2 zm))), (7, .int (iN ((zl) + ((zk1) * (G (0) (zb)))))), (8, .int (iN ((zk1) + (G (3) (zb))))), (9, .int (iN ((zb) + 1)))]) rfl rfl ?_
        have q_of : zOff 5 6 7 zg (16 * za + zb) zm (zCo G za zb zm) (zLc G T za zb (zm - za).toNat) zg1 := q_off
        exact z_ih zg1 (zb + 1) ((zl) + ((zk1) * (G (0) (zb)))) ((zk1) + (G (3) (zb))) (am_fr_t q_f (zOff_f (by decide) (by decide) (by decide) q_of)) (by omega) (fun a b y1 y2 y3 => by
          by_cases y4 : a = za ∧ b = zb
          · rw [y4.1, y4.2, if_pos ⟨rfl, by omega, by omega⟩, q_K zb (by omega) (by omega)]
            exact zEn_off2 (by decide) y_e (by omega) ⟨by omega, q_l⟩ (by omega) q_of
          · have y5 := q_e a b y1 y2 y3
            rw [show (if a = za ∧ zm ≤ b ∧ b < zb + 1 then K a b + 1 else K a b) = (if a = za ∧ zm ≤ b ∧ b < zb then K a b + 1 else K a b) from by (repeat' split) <;> first | rfl | omega]
            exact zEn_oth (by decide) y5 (by omega) q_of)
          (by rw [show zb + 1 - 1 = zb by omega, zHe_dd G zm zb (by omega) (by omega), q_h, q_k]) (by rw [zSi_s (G 3) zb (by omega), q_k]; omega) (by omega)
set_option maxRecDepth 20000 in
set_option maxHeartbeats 4000000 in
theorem jt_madeIn_4 (zd : Nat) (q_d : 2 ≤ zd) {zh : am_H} {N : Int} {G : Int → Int → Int} {S T : Int} {za zm zo : Int} {K : Int → Int → Nat} (q_nm : zNm (zh.1 1) (zh.1 2) N G S T) (q_g : zGk N G S T) (q_ah : ∀ k : Int, 0 ≤ k → k ≤ N → zh.1 8 k.toNat = iN (zPi G k)) (q_K : ∀ b : Int, zm ≤ b → b < N → K za b = (zm - za).toNat) (q_0 : 0 ≤ za ∧ za ≤ zm ∧ zm < N) (q_l : T = 1 ∨ zD G za (zm - 1) = 0) (q_o : zo = zOw G za zm) (q_t : ∀ a b : Int, 0 ≤ a → a ≤ b → b < N → zEn 5 6 7 zh G T a b (K a b)) : am_wp zd am_m_Lots_reckonMadeIn 0 [(0, .ref 4), (1, .ref 1), (2, .int (iN (za))), (3, .int (iN (zm))), (4, .int (iN (zo)))] [] (78, 76) zh (78, 76) (fun rv h' => rv = none ∧ am_fr [5, 6, 7] zh h' ∧ ∀ a b : Int, 0 ≤ a → a ≤ b → b < N → zEn 5 6 7 h' G T a b (if a = za ∧ zm ≤ b then K a b + 1 else K a b)) := by
  obtain ⟨zd, rfl⟩ : ∃ y_e, zd = y_e + 2 := ⟨zd - 2, by omega⟩
  have q_N := q_g.1
  refine wp_run (k := 3) (pc1 := 3) (l1 := [(0, .ref 4), (1, .ref 1), (2, .int (iN (za))), (3, .int (iN (zm))), (4, .int (iN (zo)))]) (st1 := [.int (iN (1)), .int (iN (zm)), .ref 1]) (kr1 := (78, 76)) (h1 := zh) rfl ?_
  refine wp_call (md1 := am_m_Numbers_value) (As := [.ref 1, .int (iN (zm)), .int (iN (1))]) (rest := []) (kr1 := (78, 76)) rfl (jt_value_1 _ (by omega) q_nm q_g (zp := zm) (zw := 1) (by omega) (by omega)) ?_
  rintro _ _ ⟨rfl, rfl⟩
  refine wp_run (k := 4) (pc1 := 11) (l1 := [(0, .ref 4), (1, .ref 1), (2, .int (iN (za))), (3, .int (iN (zm))), (4, .int (iN (zo))), (5, .int (iN (G (1) (zm))))]) (st1 := [.int (iN (2)), .int (iN (zm)), .ref 1]) (kr1 := (78, 76)) (h1 := zh) rfl ?_
  refine wp_call (md1 := am_m_Numbers_value) (As := [.ref 1, .int (iN (zm)), .int (iN (2))]) (rest := []) (kr1 := (78, 76)) rfl (jt_value_1 _ (by omega) q_nm q_g (zp := zm) (zw := 2) (by omega) (by omega)) ?_
  rintro _ _ ⟨rfl, rfl⟩
  refine wp_run (k := 7) (pc1 := 25) (l1 := [(0, .ref 4), (1, .ref 1), (2, .int (iN (za))), (3, .int (iN (zm))), (4, .int (iN (zo))), (5, .int (iN (G (1) (zm)))), (6, .int (iN (G (2) (zm)))), (7, .int (iN (0))), (8, .int (iN (0))), (9, .int (iN (zm)))]) (st1 := []) (kr1 := (78, 76)) (h1 := zh) rfl ?_
  refine jl_madeIn_4 (S := S) _ (by omega) q_nm q_g q_ah q_K q_0 q_l q_o (fun zg y1 y2 => ⟨rfl, y1, y2⟩) 17 zh zm 0 0 (am_fr_0 _ _) (by omega) (fun a b y1 y2 y3 => ?_) ?_ (by omega) (by omega)
  · rw [if_neg (by omega)]; exact q_t a b y1 y2 y3
  · unfold zHe; rw [show (zm - 1 - zm).toNat = 0 by omega]; rfl
set_option maxRecDepth 20000 in
set_option maxHeartbeats 4000000 in
theorem jl_madeIn_37 (zd : Nat) (q_d : 2 ≤ zd) {zh : am_H} {N : Int} {G : Int → Int → Int} {S T : Int} {za zm zo : Int} {K : Int → Int → Nat} (q_nm : zNm (zh.1 34) (zh.1 35) N G S T) (q_g : zGk N G S T) (q_ah : ∀ k : Int, 0 ≤ k → k ≤ N → zh.1 41 k.toNat = iN (zPi G k)) (q_K : ∀ b : Int, zm ≤ b → b < N → K za b = (zm - za).toNat) (q_0 : 0 ≤ za ∧ za ≤ zm ∧ zm < N) (q_l : T = 1 ∨ zD G za (zm - 1) = 0) (q_o : zo = zOw G za zm) {zQ : Option Value → am_H → Prop} (zk : ∀ zg : am_H, am_fr [38, 39, 40] zh zg → (∀ a b : Int, 0 ≤ a → a ≤ b → b < N → zEn 38 39 40 zg G T a b (if a = za ∧ zm ≤ b then K a b + 1 else K a b)) → zQ none zg) : ∀ (z_n : Nat) (zg : am_H) (zb : Int) (zl : Int) (zk1 : Int) (q_f : am_fr [38, 39, 40] zh zg) (q_b : zm ≤ zb ∧ zb ≤ N) (q_e : ∀ a b : Int, 0 ≤ a → a ≤ b → b < N → zEn 38 39 40 zg G T a b (if a = za ∧ zm ≤ b ∧ b < zb then K a b + 1 else K a b)) (q_h : zl = zHe G zm (zb - 1)) (q_k : zk1 = zSi (G 3) zb - zSi (G 3) zm), N - zb < (z_n : Int) → am_wp zd am_m_Lots_reckonMadeIn 25 [(0, .ref 37), (1, .ref 34), (2, .int (iN (za))), (3, .int (iN (zm))), (4, .int (iN (zo))), (5, .int (iN (G 1 zm))), (6, .int (iN (G 2 zm))), (7, .int (iN (zl))), (8, .int (iN (zk1))), (9, .int (iN (zb)))] [] (78, 76) zg (78, 76) zQ := by
  obtain ⟨zd, rfl⟩ : ∃ y_e, zd = y_e + 2 := ⟨zd - 2, by omega⟩
  intro z_n
  induction z_n with
  | zero => intro zg zb zl zk1 q_f q_b q_e q_h q_k q_m; omega
  | succ z_n z_ih =>
    intro zg zb zl zk1 q_f q_b q_e q_h q_k q_m
    have q_N := q_g.1
    have q_nm1 := zNm_f q_f q_nm (by decide) (by decide)
    have q_ah1 : ∀ k : Int, 0 ≤ k → k ≤ N → zg.1 41 k.toNat = iN (zPi G k) := by rw [q_f.2 41 (by decide)]; exact q_ah
    refine wp_run (k := 2) (pc1 := 28) (l1 := [(0, .ref 37), (1, .ref 34), (2, .int (iN (za))), (3, .int (iN (zm))), (4, .int (iN (zo))), (5, .int (iN (G 1 zm))), (6, .int (iN (G 2 zm))), (7, .int (iN (zl))), (8, .int (iN (zk1))), (9, .int (iN (zb)))]) (st1 := [.ref 34, .int (iN (zb))]) (kr1 := (78, 76)) (h1 := zg) rfl ?_
    refine wp_call (md1 := am_m_Numbers_size) (As := [.ref 34]) (rest := [.int (iN (zb))]) (kr1 := (78, 76)) rfl (jt_size_34 _ (by omega) q_nm1 q_g) ?_
    rintro _ _ ⟨rfl, rfl⟩
    refine wp_ge (a := zb) (b := N) rfl (by omega) (by omega) (fun b_31 => ?_) (fun b_31 => ?_)
    · refine wp_ret (rv := none) rfl ?_
      refine zk zg q_f (fun a b y1 y2 y3 => ?_)
      have y5 := q_e a b y1 y2 y3
      rwa [show (if a = za ∧ zm ≤ b ∧ b < zb then K a b + 1 else K a b) = (if a = za ∧ zm ≤ b then K a b + 1 else K a b) from by (repeat' split) <;> first | rfl | omega] at y5
    · have y_e : zEn 38 39 40 zg G T za zb (zm - za).toNat := by
        have y_1 := q_e za zb (by omega) (by omega) (by omega)
        rwa [if_neg (by omega), q_K zb (by omega) (by omega)] at y_1
      have y_c := zCo_rg q_g (a := za) (b := zb) (m := zm) (by omega) (by omega) (by omega) (by omega)
      have y_z := zLc_rg (T := T) q_g (a := za) (b := zb) (by omega) (by omega) (zm - za).toNat (by omega)
      have y_d := zD_rg q_g (a := za) (b := zb) (by omega) (by omega) (by omega)
      refine wp_run (k := 5) (pc1 := 42) (l1 := [(0, .ref 37), (1, .ref 34), (2, .int (iN (za))), (3, .int (iN (zm))), (4, .int (iN (zo))), (5, .int (iN (G 1 zm))), (6, .int (iN (G 2 zm))), (7, .int (iN (zl))), (8, .int (iN (zk1))), (9, .int (iN (zb)))]) (st1 := [.int (iN (0)), .int (iN (zb)), .ref 34, .int (iN (zk1)), .int (iN (zl))]) (kr1 := (78, 76)) (h1 := zg) rfl ?_
      refine wp_call (md1 := am_m_Numbers_value) (As := [.ref 34, .int (iN (zb)), .int (iN (0))]) (rest := [.int (iN (zk1)), .int (iN (zl))]) (kr1 := (78, 76)) rfl (jt_value_34 _ (by omega) q_nm1 q_g (zp := zb) (zw := 0) (by omega) (by omega)) ?_
      rintro _ _ ⟨rfl, rfl⟩
      refine wp_run (k := 7) (pc1 := 55) (l1 := [(0, .ref 37), (1, .ref 34), (2, .int (iN (za))), (3, .int (iN (zm))), (4, .int (iN (zo))), (5, .int (iN (G 1 zm))), (6, .int (iN (G 2 zm))), (7, .int (iN ((zl) + ((zk1) * (G (0) (zb)))))), (8, .int (iN (zk1))), (9, .int (iN (zb)))]) (st1 := [.int (iN (3)), .int (iN (zb)), .ref 34, .int (iN (zk1))]) (kr1 := (78, 76)) (h1 := zg) (Eq.trans (b := (some (55, [(0, .ref 37), (1, .ref 34), (2, .int (iN (za))), (3, .int (iN (zm))), (4, .int (iN (zo))), (5, .int (iN (G 1 zm))), (6, .int (iN (G 2 zm))), (7, .int ((iN (zl)) + ((iN (zk1)) * (iN (G (0) (zb)))))), (8, .int (iN (zk1))), (9, .int (iN (zb)))], [.int (iN (3)), .int (iN (zb)), .ref 34, .int (iN (zk1))], (78, 76), zg) : Option am_C)) rfl (by simp only [Int32.ofInt_add, Int32.ofInt_sub, Int32.ofInt_mul, Int32.ofInt_neg])) ?_
      refine wp_call (md1 := am_m_Numbers_value) (As := [.ref 34, .int (iN (zb)), .int (iN (3))]) (rest := [.int (iN (zk1))]) (kr1 := (78, 76)) rfl (jt_value_34 _ (by omega) q_nm1 q_g (zp := zb) (zw := 3) (by omega) (by omega)) ?_
      rintro _ _ ⟨rfl, rfl⟩
      refine wp_run (k := 5) (pc1 := 65) (l1 := [(0, .ref 37), (1, .ref 34), (2, .int (iN (za))), (3, .int (iN (zm))), (4, .int (iN (zo))), (5, .int (iN (G 1 zm))), (6, .int (iN (G 2 zm))), (7, .int (iN ((zl) + ((zk1) * (G (0) (zb)))))), (8, .int (iN ((zk1) + (G (3) (zb))))), (9, .int (iN (zb)))]) (st1 := [.int (iN (zb)), .int (iN (za)), .ref 37]) (kr1 := (78, 76)) (h1 := zg) (Eq.trans (b := (some (65, [(0, .ref 37), (1, .ref 34), (2, .int (iN (za))), (3, .int (iN (zm))), (4, .int (iN (zo))), (5, .int (iN (G 1 zm))), (6, .int (iN (G 2 zm))), (7, .int (iN ((zl) + ((zk1) * (G (0) (zb)))))), (8, .int ((iN (zk1)) + (iN (G (3) (zb))))), (9, .int (iN (zb)))], [.int (iN (zb)), .int (iN (za)), .ref 37], (78, 76), zg) : Option am_C)) rfl (by simp only [Int32.ofInt_add, Int32.ofInt_sub, Int32.ofInt_mul, Int32.ofInt_neg])) ?_
      refine wp_call (md1 := am_m_Lots_pieces) (As := [.ref 37, .int (iN (za)), .int (iN (zb))]) (rest := []) (kr1 := (78, 76)) rfl (jt_lpieces_37 _ (by omega) q_ah1 q_N.2 (za := za) (zb := zb) (by omega)) ?_
      rintro _ _ ⟨rfl, rfl⟩
      refine wp_run (k := 2) (pc1 := 72) (l1 := [(0, .ref 37), (1, .ref 34), (2, .int (iN (za))), (3, .int (iN (zm))), (4, .int (iN (zo))), (5, .int (iN (G 1 zm))), (6, .int (iN (G 2 zm))), (7, .int (iN ((zl) + ((zk1) * (G (0) (zb)))))), (8, .int (iN ((zk1) + (G (3) (zb))))), (9, .int (iN (zb))), (10, .int (iN (zD G (za) (zb))))]) (st1 := [.int (iN (zD G (za) (zb)))]) (kr1 := (78, 76)) (h1 := zg) rfl ?_
      refine wp_le0 (a := zD G (za) (zb)) rfl (by omega) (fun b_72 => ?_) (fun b_72 => ?_)
      · refine wp_run (k := 2) (pc1 := 25) (l1 := [(0, .ref 37), (1, .ref 34), (2, .int (iN (za))), (3, .int (iN (zm))), (4, .int (iN (zo))), (5, .int (iN (G 1 zm))), (6, .int (iN (G 2 zm))), (7, .int (iN ((zl) + ((zk1) * (G (0) (zb)))))), (8, .int (iN ((zk1) + (G (3) (zb))))), (9, .int (iN ((zb) + 1))), (10, .int (iN (zD G (za) (zb))))]) (st1 := []) (kr1 := (78, 76)) (h1 := zg) (Eq.trans (b := (some (25, [(0, .ref 37), (1, .ref 34), (2, .int (iN (za))), (3, .int (iN (zm))), (4, .int (iN (zo))), (5, .int (iN (G 1 zm))), (6, .int (iN (G 2 zm))), (7, .int (iN ((zl) + ((zk1) * (G (0) (zb)))))), (8, .int (iN ((zk1) + (G (3) (zb))))), (9, .int ((iN (zb)) + iN (1))), (10, .int (iN (zD G (za) (zb))))], [], (78, 76), zg) : Option am_C)) rfl (by simp only [Int32.ofInt_add, Int32.ofInt_sub, Int32.ofInt_mul, Int32.ofInt_neg])) ?_
        refine wp_drop [10] (l := [(0, .ref 37), (1, .ref 34), (2, .int (iN (za))), (3, .int (iN (zm))), (4, .int (iN (zo))), (5, .int (iN (G 1 zm))), (6, .int (iN (G 2 zm))), (7, .int (iN ((zl) + ((zk1) * (G (0) (zb)))))), (8, .int (iN ((zk1) + (G (3) (zb))))), (9, .int (iN ((zb) + 1)))]) rfl rfl ?_
        exact z_ih zg (zb + 1) ((zl) + ((zk1) * (G (0) (zb)))) ((zk1) + (G (3) (zb))) (q_f) (by omega) (fun a b y1 y2 y3 => by
          by_cases y4 : a = za ∧ b = zb
          · rw [y4.1, y4.2, if_pos ⟨rfl, by omega, by omega⟩, q_K zb (by omega) (by omega)]
            exact zEn_no y_e (fun y => by have y_1 := y.1; omega)
          · have y5 := q_e a b y1 y2 y3
            rw [show (if a = za ∧ zm ≤ b ∧ b < zb + 1 then K a b + 1 else K a b) = (if a = za ∧ zm ≤ b ∧ b < zb then K a b + 1 else K a b) from by (repeat' split) <;> first | rfl | omega]
            exact y5)
          (by rw [show zb + 1 - 1 = zb by omega, zHe_dd G zm zb (by omega) (by omega), q_h, q_k]) (by rw [zSi_s (G 3) zb (by omega), q_k]; omega) (by omega)
      · refine wp_run (k := 16) (pc1 := 98) (l1 := [(0, .ref 37), (1, .ref 34), (2, .int (iN (za))), (3, .int (iN (zm))), (4, .int (iN (zo))), (5, .int (iN (G 1 zm))), (6, .int (iN (G 2 zm))), (7, .int (iN ((zl) + ((zk1) * (G (0) (zb)))))), (8, .int (iN ((zk1) + (G (3) (zb))))), (9, .int (iN (zb))), (10, .int (iN (zD G (za) (zb))))]) (st1 := [.int (iN ((((G 1 zm) + ((G 2 zm) * (zD G (za) (zb)))) + ((zl) + ((zk1) * (G (0) (zb))))) + (zo))), .int (iN (zm)), .int (iN (((za) * (16)) + (zb))), .ref 37]) (kr1 := (78, 76)) (h1 := zg) (Eq.trans (b := (some (98, [(0, .ref 37), (1, .ref 34), (2, .int (iN (za))), (3, .int (iN (zm))), (4, .int (iN (zo))), (5, .int (iN (G 1 zm))), (6, .int (iN (G 2 zm))), (7, .int (iN ((zl) + ((zk1) * (G (0) (zb)))))), (8, .int (iN ((zk1) + (G (3) (zb))))), (9, .int (iN (zb))), (10, .int (iN (zD G (za) (zb))))], [.int ((((iN (G 1 zm)) + ((iN (G 2 zm)) * (iN (zD G (za) (zb))))) + (iN ((zl) + ((zk1) * (G (0) (zb)))))) + (iN (zo))), .int (iN (zm)), .int (((iN (za)) * (iN (16))) + (iN (zb))), .ref 37], (78, 76), zg) : Option am_C)) rfl (by simp only [Int32.ofInt_add, Int32.ofInt_sub, Int32.ofInt_mul, Int32.ofInt_neg])) ?_
        rw [show (((G 1 zm) + ((G 2 zm) * (zD G (za) (zb)))) + ((zl) + ((zk1) * (G (0) (zb))))) + (zo) = zCo G za zb zm from by unfold zCo; rw [zHe_dd G zm zb (by omega) (by omega), q_h, q_k, q_o], show ((za) * (16)) + (zb) = 16 * za + zb by omega]
        refine wp_call (md1 := am_m_Lots_offer) (As := [.ref 37, .int (iN (16 * za + zb)), .int (iN (zm)), .int (iN (zCo G za zb zm))]) (rest := []) (kr1 := (78, 76)) rfl (jt_offer_37 _ (by omega) (zi := 16 * za + zb) (zm := zm) (zv := zCo G za zb zm) (zc := zLc G T za zb (zm - za).toNat) (by omega) y_e.1 (by omega) (by omega)) ?_
        rintro _ zg1 ⟨rfl, q_off⟩
        refine wp_run (k := 2) (pc1 := 25) (l1 := [(0, .ref 37), (1, .ref 34), (2, .int (iN (za))), (3, .int (iN (zm))), (4, .int (iN (zo))), (5, .int (iN (G 1 zm))), (6, .int (iN (G 2 zm))), (7, .int (iN ((zl) + ((zk1) * (G (0) (zb)))))), (8, .int (iN ((zk1) + (G (3) (zb))))), (9, .int (iN ((zb) + 1))), (10, .int (iN (zD G (za) (zb))))]) (st1 := []) (kr1 := (78, 76)) (h1 := zg1) (Eq.trans (b := (some (25, [(0, .ref 37), (1, .ref 34), (2, .int (iN (za))), (3, .int (iN (zm))), (4, .int (iN (zo))), (5, .int (iN (G 1 zm))), (6, .int (iN (G 2 zm))), (7, .int (iN ((zl) + ((zk1) * (G (0) (zb)))))), (8, .int (iN ((zk1) + (G (3) (zb))))), (9, .int ((iN (zb)) + iN (1))), (10, .int (iN (zD G (za) (zb))))], [], (78, 76), zg1) : Option am_C)) rfl (by simp only [Int32.ofInt_add, Int32.ofInt_sub, Int32.ofInt_mul, Int32.ofInt_neg])) ?_
        refine wp_drop [10] (l := [(0, .ref 37), (1, .ref 34), (2, .int (iN (za))), (3, .int (iN (zm))), (4, .int (iN (zo))), (5, .int (iN (G 1 zm))), (6, .int (iN (G 2 zm))), (7, .int (iN ((zl) + ((zk1) * (G (0) (zb)))))), (8, .int (iN ((zk1) + (G (3) (zb))))), (9, .int (iN ((zb) + 1)))]) rfl rfl ?_
        have q_of : zOff 38 39 40 zg (16 * za + zb) zm (zCo G za zb zm) (zLc G T za zb (zm - za).toNat) zg1 := q_off
        exact z_ih zg1 (zb + 1) ((zl) + ((zk1) * (G (0) (zb)))) ((zk1) + (G (3) (zb))) (am_fr_t q_f (zOff_f (by decide) (by decide) (by decide) q_of)) (by omega) (fun a b y1 y2 y3 => by
          by_cases y4 : a = za ∧ b = zb
          · rw [y4.1, y4.2, if_pos ⟨rfl, by omega, by omega⟩, q_K zb (by omega) (by omega)]
            exact zEn_off2 (by decide) y_e (by omega) ⟨by omega, q_l⟩ (by omega) q_of
          · have y5 := q_e a b y1 y2 y3
            rw [show (if a = za ∧ zm ≤ b ∧ b < zb + 1 then K a b + 1 else K a b) = (if a = za ∧ zm ≤ b ∧ b < zb then K a b + 1 else K a b) from by (repeat' split) <;> first | rfl | omega]
            exact zEn_oth (by decide) y5 (by omega) q_of)
          (by rw [show zb + 1 - 1 = zb by omega, zHe_dd G zm zb (by omega) (by omega), q_h, q_k]) (by rw [zSi_s (G 3) zb (by omega), q_k]; omega) (by omega)
set_option maxRecDepth 20000 in
set_option maxHeartbeats 4000000 in
theorem jt_madeIn_37 (zd : Nat) (q_d : 2 ≤ zd) {zh : am_H} {N : Int} {G : Int → Int → Int} {S T : Int} {za zm zo : Int} {K : Int → Int → Nat} (q_nm : zNm (zh.1 34) (zh.1 35) N G S T) (q_g : zGk N G S T) (q_ah : ∀ k : Int, 0 ≤ k → k ≤ N → zh.1 41 k.toNat = iN (zPi G k)) (q_K : ∀ b : Int, zm ≤ b → b < N → K za b = (zm - za).toNat) (q_0 : 0 ≤ za ∧ za ≤ zm ∧ zm < N) (q_l : T = 1 ∨ zD G za (zm - 1) = 0) (q_o : zo = zOw G za zm) (q_t : ∀ a b : Int, 0 ≤ a → a ≤ b → b < N → zEn 38 39 40 zh G T a b (K a b)) : am_wp zd am_m_Lots_reckonMadeIn 0 [(0, .ref 37), (1, .ref 34), (2, .int (iN (za))), (3, .int (iN (zm))), (4, .int (iN (zo)))] [] (78, 76) zh (78, 76) (fun rv h' => rv = none ∧ am_fr [38, 39, 40] zh h' ∧ ∀ a b : Int, 0 ≤ a → a ≤ b → b < N → zEn 38 39 40 h' G T a b (if a = za ∧ zm ≤ b then K a b + 1 else K a b)) := by
  obtain ⟨zd, rfl⟩ : ∃ y_e, zd = y_e + 2 := ⟨zd - 2, by omega⟩
  have q_N := q_g.1
  refine wp_run (k := 3) (pc1 := 3) (l1 := [(0, .ref 37), (1, .ref 34), (2, .int (iN (za))), (3, .int (iN (zm))), (4, .int (iN (zo)))]) (st1 := [.int (iN (1)), .int (iN (zm)), .ref 34]) (kr1 := (78, 76)) (h1 := zh) rfl ?_
  refine wp_call (md1 := am_m_Numbers_value) (As := [.ref 34, .int (iN (zm)), .int (iN (1))]) (rest := []) (kr1 := (78, 76)) rfl (jt_value_34 _ (by omega) q_nm q_g (zp := zm) (zw := 1) (by omega) (by omega)) ?_
  rintro _ _ ⟨rfl, rfl⟩
  refine wp_run (k := 4) (pc1 := 11) (l1 := [(0, .ref 37), (1, .ref 34), (2, .int (iN (za))), (3, .int (iN (zm))), (4, .int (iN (zo))), (5, .int (iN (G (1) (zm))))]) (st1 := [.int (iN (2)), .int (iN (zm)), .ref 34]) (kr1 := (78, 76)) (h1 := zh) rfl ?_
  refine wp_call (md1 := am_m_Numbers_value) (As := [.ref 34, .int (iN (zm)), .int (iN (2))]) (rest := []) (kr1 := (78, 76)) rfl (jt_value_34 _ (by omega) q_nm q_g (zp := zm) (zw := 2) (by omega) (by omega)) ?_
  rintro _ _ ⟨rfl, rfl⟩
  refine wp_run (k := 7) (pc1 := 25) (l1 := [(0, .ref 37), (1, .ref 34), (2, .int (iN (za))), (3, .int (iN (zm))), (4, .int (iN (zo))), (5, .int (iN (G (1) (zm)))), (6, .int (iN (G (2) (zm)))), (7, .int (iN (0))), (8, .int (iN (0))), (9, .int (iN (zm)))]) (st1 := []) (kr1 := (78, 76)) (h1 := zh) rfl ?_
  refine jl_madeIn_37 (S := S) _ (by omega) q_nm q_g q_ah q_K q_0 q_l q_o (fun zg y1 y2 => ⟨rfl, y1, y2⟩) 17 zh zm 0 0 (am_fr_0 _ _) (by omega) (fun a b y1 y2 y3 => ?_) ?_ (by omega) (by omega)
  · rw [if_neg (by omega)]; exact q_t a b y1 y2 y3
  · unfold zHe; rw [show (zm - 1 - zm).toNat = 0 by omega]; rfl
