/-! THE CLASS's Numbers: reads -/
/-- numbers of periods lie in a row: N of them, G kind period, the store, whether late may be -/
def zNm (fo fc : Nat → Int32) (N : Int) (G : Int → Int → Int) (S T : Int) : Prop := fo 1 = iN N ∧ (∀ w p : Int, 0 ≤ w → w < 6 → 0 ≤ p → p < N → fc (16 * w + p).toNat = iN (G w p)) ∧ fc 96 = iN S ∧ fc 97 = iN T
def zGk (N : Int) (G : Int → Int → Int) (S T : Int) : Prop := (1 ≤ N ∧ N ≤ 16) ∧ (∀ w p : Int, 0 ≤ w → w < 6 → 0 ≤ p → p < N → 0 ≤ G w p ∧ G w p ≤ vmax w) ∧ (0 ≤ S ∧ S ≤ 999) ∧ (T = 0 ∨ T = 1)
/-- what the periods ahead of k demand -/
def zP (G : Int → Int → Int) : Nat → Int
  | 0 => 0
  | k + 1 => zP G k + G 0 k
def zPi (G : Int → Int → Int) (k : Int) : Int := zP G k.toNat
theorem zPi_s (G : Int → Int → Int) (k : Int) (q_k : 0 ≤ k) : zPi G (k + 1) = zPi G k + G 0 k := by
  unfold zPi
  rw [show (k + 1).toNat = k.toNat + 1 by omega]
  show zP G k.toNat + G 0 (k.toNat : Int) = _
  rw [show (k.toNat : Int) = k by omega]
theorem zPi_0 (G : Int → Int → Int) : zPi G 0 = 0 := rfl
/-- what the periods a .. b demand -/
def zD (G : Int → Int → Int) (a b : Int) : Int := zPi G (b + 1) - zPi G a
theorem zPi_m {N : Int} {G : Int → Int → Int} {S T : Int} (q_g : zGk N G S T) (k : Int) (q_0 : 0 ≤ k) : ∀ j : Nat, k + j ≤ N → zPi G k ≤ zPi G (k + j) ∧ zPi G (k + j) ≤ zPi G k + 99 * j := by
  intro j
  induction j with
  | zero => intro _; simp
  | succ j ih =>
    intro q_j
    have q_1 := ih (by omega)
    have q_2 := zPi_s G (k + j) (by omega)
    have q_3 := q_g.2.1 0 (k + j) (by omega) (by omega) (by omega) (by omega)
    rw [show vmax 0 = 99 from rfl] at q_3
    rw [show k + ((j + 1 : Nat) : Int) = k + j + 1 by omega, q_2]
    omega
theorem zPi_rg {N : Int} {G : Int → Int → Int} {S T : Int} (q_g : zGk N G S T) {a b : Int} (q_0 : 0 ≤ a) (q_1 : a ≤ b) (q_2 : b ≤ N) : 0 ≤ zPi G b - zPi G a ∧ zPi G b - zPi G a ≤ 1584 := by
  have q_3 := zPi_m q_g a q_0 (b - a).toNat (by omega)
  rw [show a + ((b - a).toNat : Int) = b by omega] at q_3
  have q_4 := q_g.1
  omega
set_option maxRecDepth 20000 in
set_option maxHeartbeats 4000000 in
theorem jt_size_1 (zd : Nat) (q_d : 0 ≤ zd) {zh : am_H} {N : Int} {G : Int → Int → Int} {S T : Int} (q_nm : zNm (zh.1 1) (zh.1 2) N G S T) (q_g : zGk N G S T) : am_wp zd am_m_Numbers_size 0 [(0, .ref 1)] [] (78, 76) zh (78, 76) (fun rv h' => rv = some (.int (iN (N))) ∧ zh = h') := by
  obtain ⟨zd, rfl⟩ : ∃ y_e, zd = y_e + 0 := ⟨zd - 0, by omega⟩
  refine wp_run (k := 2) (pc1 := 4) (l1 := [(0, .ref 1)]) (st1 := [.int (iN (N))]) (kr1 := (78, 76)) (h1 := zh) (Eq.trans (b := (some (4, [(0, .ref 1)], [.int (zh.1 1 1)], (78, 76), zh) : Option am_C)) rfl (by simp only [q_nm.1, Int32.ofInt_add, Int32.ofInt_sub, Int32.ofInt_mul, Int32.ofInt_neg])) ?_
  refine wp_ret (rv := some (.int (iN (N)))) rfl ?_
  exact ⟨rfl, rfl⟩
set_option maxRecDepth 20000 in
set_option maxHeartbeats 4000000 in
theorem jt_stamp_1 (zd : Nat) (q_d : 0 ≤ zd) {zh : am_H} {zs : Int} (q_s : zh.1 1 2 = iN zs) : am_wp zd am_m_Numbers_stamp 0 [(0, .ref 1)] [] (78, 76) zh (78, 76) (fun rv h' => rv = some (.int (iN (zs))) ∧ zh = h') := by
  obtain ⟨zd, rfl⟩ : ∃ y_e, zd = y_e + 0 := ⟨zd - 0, by omega⟩
  refine wp_run (k := 2) (pc1 := 4) (l1 := [(0, .ref 1)]) (st1 := [.int (iN (zs))]) (kr1 := (78, 76)) (h1 := zh) (Eq.trans (b := (some (4, [(0, .ref 1)], [.int (zh.1 1 2)], (78, 76), zh) : Option am_C)) rfl (by simp only [q_s, Int32.ofInt_add, Int32.ofInt_sub, Int32.ofInt_mul, Int32.ofInt_neg])) ?_
  refine wp_ret (rv := some (.int (iN (zs)))) rfl ?_
  exact ⟨rfl, rfl⟩
set_option maxRecDepth 20000 in
set_option maxHeartbeats 4000000 in
theorem jt_has_1 (zd : Nat) (q_d : 0 ≤ zd) {zh : am_H} {N : Int} {G : Int → Int → Int} {S T : Int} {zp : Int} (q_nm : zNm (zh.1 1) (zh.1 2) N G S T) (q_g : zGk N G S T) (q_p : -2147483648 ≤ zp ∧ zp < 2147483648) : am_wp zd am_m_Numbers_has 0 [(0, .ref 1), (1, .int (iN (zp)))] [] (78, 76) zh (78, 76) (fun rv h' => rv = some (.int (iN (bI (0 ≤ zp ∧ zp < N) inferInstance))) ∧ zh = h') := by
  obtain ⟨zd, rfl⟩ : ∃ y_e, zd = y_e + 0 := ⟨zd - 0, by omega⟩
  have q_N := q_g.1
  refine wp_run (k := 1) (pc1 := 1) (l1 := [(0, .ref 1), (1, .int (iN (zp)))]) (st1 := [.int (iN (zp))]) (kr1 := (78, 76)) (h1 := zh) rfl ?_
  refine wp_lt0 (a := zp) rfl (by omega) (fun b_1 => ?_) (fun b_1 => ?_)
  · refine wp_run (k := 1) (pc1 := 17) (l1 := [(0, .ref 1), (1, .int (iN (zp)))]) (st1 := [.int (iN (0))]) (kr1 := (78, 76)) (h1 := zh) rfl ?_
    refine wp_ret (rv := some (.int (iN (0)))) rfl ?_
    exact ⟨by rw [show bI (0 ≤ zp ∧ zp < N) inferInstance = 0 from if_neg (by omega)], rfl⟩
  · refine wp_run (k := 3) (pc1 := 9) (l1 := [(0, .ref 1), (1, .int (iN (zp)))]) (st1 := [.int (iN (N)), .int (iN (zp))]) (kr1 := (78, 76)) (h1 := zh) (Eq.trans (b := (some (9, [(0, .ref 1), (1, .int (iN (zp)))], [.int (zh.1 1 1), .int (iN (zp))], (78, 76), zh) : Option am_C)) rfl (by simp only [q_nm.1, Int32.ofInt_add, Int32.ofInt_sub, Int32.ofInt_mul, Int32.ofInt_neg])) ?_
    refine wp_ge (a := zp) (b := N) rfl (by omega) (by omega) (fun b_9 => ?_) (fun b_9 => ?_)
    · refine wp_run (k := 1) (pc1 := 17) (l1 := [(0, .ref 1), (1, .int (iN (zp)))]) (st1 := [.int (iN (0))]) (kr1 := (78, 76)) (h1 := zh) rfl ?_
      refine wp_ret (rv := some (.int (iN (0)))) rfl ?_
      exact ⟨by rw [show bI (0 ≤ zp ∧ zp < N) inferInstance = 0 from if_neg (by omega)], rfl⟩
    · refine wp_run (k := 2) (pc1 := 17) (l1 := [(0, .ref 1), (1, .int (iN (zp)))]) (st1 := [.int (iN (1))]) (kr1 := (78, 76)) (h1 := zh) rfl ?_
      refine wp_ret (rv := some (.int (iN (1)))) rfl ?_
      exact ⟨by rw [show bI (0 ≤ zp ∧ zp < N) inferInstance = 1 from if_pos (by omega)], rfl⟩
set_option maxRecDepth 20000 in
set_option maxHeartbeats 4000000 in
theorem jt_value_1 (zd : Nat) (q_d : 0 ≤ zd) {zh : am_H} {N : Int} {G : Int → Int → Int} {S T : Int} {zp zw : Int} (q_nm : zNm (zh.1 1) (zh.1 2) N G S T) (q_g : zGk N G S T) (q_p : 0 ≤ zp ∧ zp < N) (q_w : 0 ≤ zw ∧ zw < 6) : am_wp zd am_m_Numbers_value 0 [(0, .ref 1), (1, .int (iN (zp))), (2, .int (iN (zw)))] [] (78, 76) zh (78, 76) (fun rv h' => rv = some (.int (iN (G zw zp))) ∧ zh = h') := by
  obtain ⟨zd, rfl⟩ : ∃ y_e, zd = y_e + 0 := ⟨zd - 0, by omega⟩
  have q_N := q_g.1
  refine wp_run (k := 1) (pc1 := 1) (l1 := [(0, .ref 1), (1, .int (iN (zp))), (2, .int (iN (zw)))]) (st1 := [.int (iN (zp))]) (kr1 := (78, 76)) (h1 := zh) rfl ?_
  refine wp_lt0 (a := zp) rfl (by omega) (fun b_1 => ?_) (fun b_1 => ?_)
  · exact absurd b_1 (by omega)
  · refine wp_run (k := 3) (pc1 := 9) (l1 := [(0, .ref 1), (1, .int (iN (zp))), (2, .int (iN (zw)))]) (st1 := [.int (iN (N)), .int (iN (zp))]) (kr1 := (78, 76)) (h1 := zh) (Eq.trans (b := (some (9, [(0, .ref 1), (1, .int (iN (zp))), (2, .int (iN (zw)))], [.int (zh.1 1 1), .int (iN (zp))], (78, 76), zh) : Option am_C)) rfl (by simp only [q_nm.1, Int32.ofInt_add, Int32.ofInt_sub, Int32.ofInt_mul, Int32.ofInt_neg])) ?_
    refine wp_ge (a := zp) (b := N) rfl (by omega) (by omega) (fun b_9 => ?_) (fun b_9 => ?_)
    · exact absurd b_9 (by omega)
    · refine wp_run (k := 1) (pc1 := 13) (l1 := [(0, .ref 1), (1, .int (iN (zp))), (2, .int (iN (zw)))]) (st1 := [.int (iN (zw))]) (kr1 := (78, 76)) (h1 := zh) rfl ?_
      refine wp_lt0 (a := zw) rfl (by omega) (fun b_13 => ?_) (fun b_13 => ?_)
      · exact absurd b_13 (by omega)
      · refine wp_run (k := 2) (pc1 := 19) (l1 := [(0, .ref 1), (1, .int (iN (zp))), (2, .int (iN (zw)))]) (st1 := [.int (iN (6)), .int (iN (zw))]) (kr1 := (78, 76)) (h1 := zh) rfl ?_
        refine wp_lt (a := zw) (b := 6) rfl (by omega) (by omega) (fun b_19 => ?_) (fun b_19 => ?_)
        · refine wp_run (k := 9) (pc1 := 36) (l1 := [(0, .ref 1), (1, .int (iN (zp))), (2, .int (iN (zw))), (3, .int (iN (((zw) * (16)) + (zp))))]) (st1 := [.ref 2, .int (iN (((zw) * (16)) + (zp)))]) (kr1 := (78, 76)) (h1 := zh) (Eq.trans (b := (some (36, [(0, .ref 1), (1, .int (iN (zp))), (2, .int (iN (zw))), (3, .int (((iN (zw)) * (iN (16))) + (iN (zp))))], [.ref 2, .int (((iN (zw)) * (iN (16))) + (iN (zp)))], (78, 76), zh) : Option am_C)) rfl (by simp only [Int32.ofInt_add, Int32.ofInt_sub, Int32.ofInt_mul, Int32.ofInt_neg])) ?_
          refine wp_alen (v := 98) rfl rfl ?_
          refine wp_ge (a := ((zw) * (16)) + (zp)) (b := 98) rfl (by omega) (by omega) (fun b_37 => ?_) (fun b_37 => ?_)
          · exact absurd b_37 (by omega)
          · refine wp_run (k := 3) (pc1 := 45) (l1 := [(0, .ref 1), (1, .int (iN (zp))), (2, .int (iN (zw))), (3, .int (iN (((zw) * (16)) + (zp))))]) (st1 := [.int (iN (((zw) * (16)) + (zp))), .ref 2]) (kr1 := (78, 76)) (h1 := zh) rfl ?_
            refine wp_iald (f := zh.1 2) (z := ((zw) * (16)) + (zp)) (j := (16 * zw + zp).toNat) (n := 98) (v := iN (G zw zp)) rfl rfl (by omega) (by omega) (by decide) (q_nm.2.1 zw zp (by omega) (by omega) (by omega) (by omega)) ?_
            refine wp_run (k := 1) (pc1 := 50) (l1 := [(0, .ref 1), (1, .int (iN (zp))), (2, .int (iN (zw))), (3, .int (iN (((zw) * (16)) + (zp))))]) (st1 := [.int (iN (G zw zp))]) (kr1 := (78, 76)) (h1 := zh) rfl ?_
            refine wp_ret (rv := some (.int (iN (G zw zp)))) rfl ?_
            exact ⟨rfl, rfl⟩
        · exact absurd b_19 (by omega)
set_option maxRecDepth 20000 in
set_option maxHeartbeats 4000000 in
theorem jt_store_1 (zd : Nat) (q_d : 1 ≤ zd) {zh : am_H} {N : Int} {G : Int → Int → Int} {S T : Int} (q_nm : zNm (zh.1 1) (zh.1 2) N G S T) (q_g : zGk N G S T) : am_wp zd am_m_Numbers_store 0 [(0, .ref 1)] [] (78, 76) zh (78, 76) (fun rv h' => rv = some (.int (iN (S))) ∧ zh = h') := by
  obtain ⟨zd, rfl⟩ : ∃ y_e, zd = y_e + 1 := ⟨zd - 1, by omega⟩
  refine wp_run (k := 3) (pc1 := 6) (l1 := [(0, .ref 1)]) (st1 := [.int (iN (96)), .ref 2]) (kr1 := (78, 76)) (h1 := zh) rfl ?_
  refine wp_call (md1 := am_m_Lp_at) (As := [.ref 2, .int (iN (96))]) (rest := []) (kr1 := (78, 76)) rfl (jt_at _ (by omega) (zn := 98) (zi := 96) (zv := iN S) rfl rfl (by decide) (by omega) (by omega) (q_nm.2.2.1)) ?_
  rintro _ _ ⟨rfl, rfl⟩
  refine wp_ret (rv := some (.int (iN S))) rfl ?_
  exact ⟨rfl, rfl⟩
set_option maxRecDepth 20000 in
set_option maxHeartbeats 4000000 in
theorem jt_lateMayBe_1 (zd : Nat) (q_d : 1 ≤ zd) {zh : am_H} {N : Int} {G : Int → Int → Int} {S T : Int} (q_nm : zNm (zh.1 1) (zh.1 2) N G S T) (q_g : zGk N G S T) : am_wp zd am_m_Numbers_lateMayBe 0 [(0, .ref 1)] [] (78, 76) zh (78, 76) (fun rv h' => rv = some (.int (iN (T))) ∧ zh = h') := by
  obtain ⟨zd, rfl⟩ : ∃ y_e, zd = y_e + 1 := ⟨zd - 1, by omega⟩
  refine wp_run (k := 3) (pc1 := 6) (l1 := [(0, .ref 1)]) (st1 := [.int (iN (97)), .ref 2]) (kr1 := (78, 76)) (h1 := zh) rfl ?_
  refine wp_call (md1 := am_m_Lp_at) (As := [.ref 2, .int (iN (97))]) (rest := []) (kr1 := (78, 76)) rfl (jt_at _ (by omega) (zn := 98) (zi := 97) (zv := iN T) rfl rfl (by decide) (by omega) (by omega) (q_nm.2.2.2)) ?_
  rintro _ _ ⟨rfl, rfl⟩
  refine wp_ret (rv := some (.int (iN T))) rfl ?_
  exact ⟨rfl, rfl⟩
set_option maxRecDepth 20000 in
set_option maxHeartbeats 4000000 in
theorem jl_pieces_1 (zd : Nat) (q_d : 1 ≤ zd) {zh : am_H} {N : Int} {G : Int → Int → Int} {S T : Int} {za zb : Int} (q_nm : zNm (zh.1 1) (zh.1 2) N G S T) (q_g : zGk N G S T) (q_0 : 0 ≤ za ∧ za ≤ zb + 1 ∧ zb < N) {zQ : Option Value → am_H → Prop} (zk : ∀ zv : Int, zv = zPi G (zb + 1) - zPi G za → zQ (some (.int (iN zv))) zh) : ∀ (z_n : Nat) (zp : Int) (zs : Int) (q_p : za ≤ zp ∧ zp ≤ zb + 1) (q_z : zs = zPi G zp - zPi G za), zb + 1 - zp < (z_n : Int) → am_wp zd am_m_Numbers_pieces 5 [(0, .ref 1), (1, .int (iN (za))), (2, .int (iN (zb))), (3, .int (iN (zs))), (4, .int (iN (zp)))] [] (78, 76) zh (78, 76) zQ := by
  obtain ⟨zd, rfl⟩ : ∃ y_e, zd = y_e + 1 := ⟨zd - 1, by omega⟩
  intro z_n
  induction z_n with
  | zero => intro zp zs q_p q_z q_m; omega
  | succ z_n z_ih =>
    intro zp zs q_p q_z q_m
    have q_N := q_g.1
    refine wp_run (k := 2) (pc1 := 8) (l1 := [(0, .ref 1), (1, .int (iN (za))), (2, .int (iN (zb))), (3, .int (iN (zs))), (4, .int (iN (zp)))]) (st1 := [.int (iN (zb)), .int (iN (zp))]) (kr1 := (78, 76)) (h1 := zh) rfl ?_
    refine wp_gt (a := zp) (b := zb) rfl (by omega) (by omega) (fun b_8 => ?_) (fun b_8 => ?_)
    · refine wp_run (k := 1) (pc1 := 37) (l1 := [(0, .ref 1), (1, .int (iN (za))), (2, .int (iN (zb))), (3, .int (iN (zs))), (4, .int (iN (zp)))]) (st1 := [.int (iN (zs))]) (kr1 := (78, 76)) (h1 := zh) rfl ?_
      refine wp_ret (rv := some (.int (iN (zs)))) rfl ?_
      refine zk _ ?_
      rw [q_z, show zp = zb + 1 by omega]
    · refine wp_run (k := 3) (pc1 := 17) (l1 := [(0, .ref 1), (1, .int (iN (za))), (2, .int (iN (zb))), (3, .int (iN (zs))), (4, .int (iN (zp)))]) (st1 := [.int (iN (N)), .int (iN (zp))]) (kr1 := (78, 76)) (h1 := zh) (Eq.trans (b := (some (17, [(0, .ref 1), (1, .int (iN (za))), (2, .int (iN (zb))), (3, .int (iN (zs))), (4, .int (iN (zp)))], [.int (zh.1 1 1), .int (iN (zp))], (78, 76), zh) : Option am_C)) rfl (by simp only [q_nm.1, Int32.ofInt_add, Int32.ofInt_sub, Int32.ofInt_mul, Int32.ofInt_neg])) ?_
      refine wp_ge (a := zp) (b := N) rfl (by omega) (by omega) (fun b_17 => ?_) (fun b_17 => ?_)
      · exact absurd b_17 (by omega)
      · refine wp_run (k := 4) (pc1 := 25) (l1 := [(0, .ref 1), (1, .int (iN (za))), (2, .int (iN (zb))), (3, .int (iN (zs))), (4, .int (iN (zp)))]) (st1 := [.int (iN (0)), .int (iN (zp)), .ref 1, .int (iN (zs))]) (kr1 := (78, 76)) (h1 := zh) rfl ?_
        refine wp_call (md1 := am_m_Numbers_value) (As := [.ref 1, .int (iN (zp)), .int (iN (0))]) (rest := [.int (iN (zs))]) (kr1 := (78, 76)) rfl (jt_value_1 _ (by omega) q_nm q_g (zp := zp) (zw := 0) (by omega) (by omega)) ?_
        rintro _ _ ⟨rfl, rfl⟩
        refine wp_run (k := 4) (pc1 := 5) (l1 := [(0, .ref 1), (1, .int (iN (za))), (2, .int (iN (zb))), (3, .int (iN ((zs) + (G (0) (zp))))), (4, .int (iN ((zp) + 1)))]) (st1 := []) (kr1 := (78, 76)) (h1 := zh) (Eq.trans (b := (some (5, [(0, .ref 1), (1, .int (iN (za))), (2, .int (iN (zb))), (3, .int ((iN (zs)) + (iN (G (0) (zp))))), (4, .int ((iN (zp)) + iN (1)))], [], (78, 76), zh) : Option am_C)) rfl (by simp only [Int32.ofInt_add, Int32.ofInt_sub, Int32.ofInt_mul, Int32.ofInt_neg])) ?_
        exact z_ih ((zp) + 1) ((zs) + (G (0) (zp))) (by omega) (by rw [q_z, zPi_s G zp (by omega)]; omega) (by omega)
set_option maxRecDepth 20000 in
set_option maxHeartbeats 4000000 in
theorem jt_pieces_1 (zd : Nat) (q_d : 1 ≤ zd) {zh : am_H} {N : Int} {G : Int → Int → Int} {S T : Int} {za zb : Int} (q_nm : zNm (zh.1 1) (zh.1 2) N G S T) (q_g : zGk N G S T) (q_0 : 0 ≤ za ∧ za ≤ zb + 1 ∧ zb < N) : am_wp zd am_m_Numbers_pieces 0 [(0, .ref 1), (1, .int (iN (za))), (2, .int (iN (zb)))] [] (78, 76) zh (78, 76) (fun rv h' => rv = some (.int (iN (zD G za zb))) ∧ zh = h') := by
  obtain ⟨zd, rfl⟩ : ∃ y_e, zd = y_e + 1 := ⟨zd - 1, by omega⟩
  have q_N := q_g.1
  refine wp_run (k := 4) (pc1 := 5) (l1 := [(0, .ref 1), (1, .int (iN (za))), (2, .int (iN (zb))), (3, .int (iN (0))), (4, .int (iN (za)))]) (st1 := []) (kr1 := (78, 76)) (h1 := zh) rfl ?_
  exact jl_pieces_1 _ (by omega) q_nm q_g q_0 (fun zv q_v => ⟨by rw [q_v]; rfl, rfl⟩) (zb + 2 - za).toNat za 0 (by omega) (by omega) (by omega)
set_option maxRecDepth 20000 in
set_option maxHeartbeats 4000000 in
theorem jt_stockCost_1 (zd : Nat) (q_d : 1 ≤ zd) {zh : am_H} {N : Int} {G : Int → Int → Int} {S T : Int} {zp zs : Int} (q_nm : zNm (zh.1 1) (zh.1 2) N G S T) (q_g : zGk N G S T) (q_p : 0 ≤ zp ∧ zp < N) (q_s : -2147483648 ≤ zs ∧ zs < 2147483648) : am_wp zd am_m_Numbers_stockCost 0 [(0, .ref 1), (1, .int (iN (zp))), (2, .int (iN (zs)))] [] (78, 76) zh (78, 76) (fun rv h' => rv = some (.int (iN (if 0 < zs then zs * G 3 zp else -zs * G 4 zp))) ∧ zh = h') := by
  obtain ⟨zd, rfl⟩ : ∃ y_e, zd = y_e + 1 := ⟨zd - 1, by omega⟩
  have q_N := q_g.1
  refine wp_run (k := 1) (pc1 := 1) (l1 := [(0, .ref 1), (1, .int (iN (zp))), (2, .int (iN (zs)))]) (st1 := [.int (iN (zs))]) (kr1 := (78, 76)) (h1 := zh) rfl ?_
  refine wp_le0 (a := zs) rfl (by omega) (fun b_1 => ?_) (fun b_1 => ?_)
  · refine wp_run (k := 5) (pc1 := 20) (l1 := [(0, .ref 1), (1, .int (iN (zp))), (2, .int (iN (zs)))]) (st1 := [.int (iN (4)), .int (iN (zp)), .ref 1, .int (iN (-(zs)))]) (kr1 := (78, 76)) (h1 := zh) (Eq.trans (b := (some (20, [(0, .ref 1), (1, .int (iN (zp))), (2, .int (iN (zs)))], [.int (iN (4)), .int (iN (zp)), .ref 1, .int (-(iN (zs)))], (78, 76), zh) : Option am_C)) rfl (by simp only [Int32.ofInt_add, Int32.ofInt_sub, Int32.ofInt_mul, Int32.ofInt_neg])) ?_
    refine wp_call (md1 := am_m_Numbers_value) (As := [.ref 1, .int (iN (zp)), .int (iN (4))]) (rest := [.int (iN (-(zs)))]) (kr1 := (78, 76)) rfl (jt_value_1 _ (by omega) q_nm q_g (zp := zp) (zw := 4) (by omega) (by omega)) ?_
    rintro _ _ ⟨rfl, rfl⟩
    refine wp_run (k := 1) (pc1 := 24) (l1 := [(0, .ref 1), (1, .int (iN (zp))), (2, .int (iN (zs)))]) (st1 := [.int (iN ((-(zs)) * (G (4) (zp))))]) (kr1 := (78, 76)) (h1 := zh) (Eq.trans (b := (some (24, [(0, .ref 1), (1, .int (iN (zp))), (2, .int (iN (zs)))], [.int ((iN (-(zs))) * (iN (G (4) (zp))))], (78, 76), zh) : Option am_C)) rfl (by simp only [Int32.ofInt_add, Int32.ofInt_sub, Int32.ofInt_mul, Int32.ofInt_neg])) ?_
    refine wp_ret (rv := some (.int (iN ((-(zs)) * (G (4) (zp)))))) rfl ?_
    exact ⟨by rw [show (if 0 < zs then zs * G 3 zp else -zs * G 4 zp) = (-(zs)) * (G (4) (zp)) from if_neg (by omega)], rfl⟩
  · refine wp_run (k := 4) (pc1 := 8) (l1 := [(0, .ref 1), (1, .int (iN (zp))), (2, .int (iN (zs)))]) (st1 := [.int (iN (3)), .int (iN (zp)), .ref 1, .int (iN (zs))]) (kr1 := (78, 76)) (h1 := zh) rfl ?_
    refine wp_call (md1 := am_m_Numbers_value) (As := [.ref 1, .int (iN (zp)), .int (iN (3))]) (rest := [.int (iN (zs))]) (kr1 := (78, 76)) rfl (jt_value_1 _ (by omega) q_nm q_g (zp := zp) (zw := 3) (by omega) (by omega)) ?_
    rintro _ _ ⟨rfl, rfl⟩
    refine wp_run (k := 2) (pc1 := 24) (l1 := [(0, .ref 1), (1, .int (iN (zp))), (2, .int (iN (zs)))]) (st1 := [.int (iN ((zs) * (G (3) (zp))))]) (kr1 := (78, 76)) (h1 := zh) (Eq.trans (b := (some (24, [(0, .ref 1), (1, .int (iN (zp))), (2, .int (iN (zs)))], [.int ((iN (zs)) * (iN (G (3) (zp))))], (78, 76), zh) : Option am_C)) rfl (by simp only [Int32.ofInt_add, Int32.ofInt_sub, Int32.ofInt_mul, Int32.ofInt_neg])) ?_
    refine wp_ret (rv := some (.int (iN ((zs) * (G (3) (zp)))))) rfl ?_
    exact ⟨by rw [show (if 0 < zs then zs * G 3 zp else -zs * G 4 zp) = (zs) * (G (3) (zp)) from if_pos (by omega)], rfl⟩
set_option maxRecDepth 20000 in
set_option maxHeartbeats 4000000 in
theorem jt_size_34 (zd : Nat) (q_d : 0 ≤ zd) {zh : am_H} {N : Int} {G : Int → Int → Int} {S T : Int} (q_nm : zNm (zh.1 34) (zh.1 35) N G S T) (q_g : zGk N G S T) : am_wp zd am_m_Numbers_size 0 [(0, .ref 34)] [] (78, 76) zh (78, 76) (fun rv h' => rv = some (.int (iN (N))) ∧ zh = h') := by
  obtain ⟨zd, rfl⟩ : ∃ y_e, zd = y_e + 0 := ⟨zd - 0, by omega⟩
  refine wp_run (k := 2) (pc1 := 4) (l1 := [(0, .ref 34)]) (st1 := [.int (iN (N))]) (kr1 := (78, 76)) (h1 := zh) (Eq.trans (b := (some (4, [(0, .ref 34)], [.int (zh.1 34 1)], (78, 76), zh) : Option am_C)) rfl (by simp only [q_nm.1, Int32.ofInt_add, Int32.ofInt_sub, Int32.ofInt_mul, Int32.ofInt_neg])) ?_
  refine wp_ret (rv := some (.int (iN (N)))) rfl ?_
  exact ⟨rfl, rfl⟩
set_option maxRecDepth 20000 in
set_option maxHeartbeats 4000000 in
theorem jt_stamp_34 (zd : Nat) (q_d : 0 ≤ zd) {zh : am_H} {zs : Int} (q_s : zh.1 34 2 = iN zs) : am_wp zd am_m_Numbers_stamp 0 [(0, .ref 34)] [] (78, 76) zh (78, 76) (fun rv h' => rv = some (.int (iN (zs))) ∧ zh = h') := by
  obtain ⟨zd, rfl⟩ : ∃ y_e, zd = y_e + 0 := ⟨zd - 0, by omega⟩
  refine wp_run (k := 2) (pc1 := 4) (l1 := [(0, .ref 34)]) (st1 := [.int (iN (zs))]) (kr1 := (78, 76)) (h1 := zh) (Eq.trans (b := (some (4, [(0, .ref 34)], [.int (zh.1 34 2)], (78, 76), zh) : Option am_C)) rfl (by simp only [q_s, Int32.ofInt_add, Int32.ofInt_sub, Int32.ofInt_mul, Int32.ofInt_neg])) ?_
  refine wp_ret (rv := some (.int (iN (zs)))) rfl ?_
  exact ⟨rfl, rfl⟩
set_option maxRecDepth 20000 in
set_option maxHeartbeats 4000000 in
theorem jt_has_34 (zd : Nat) (q_d : 0 ≤ zd) {zh : am_H} {N : Int} {G : Int → Int → Int} {S T : Int} {zp : Int} (q_nm : zNm (zh.1 34) (zh.1 35) N G S T) (q_g : zGk N G S T) (q_p : -2147483648 ≤ zp ∧ zp < 2147483648) : am_wp zd am_m_Numbers_has 0 [(0, .ref 34), (1, .int (iN (zp)))] [] (78, 76) zh (78, 76) (fun rv h' => rv = some (.int (iN (bI (0 ≤ zp ∧ zp < N) inferInstance))) ∧ zh = h') := by
  obtain ⟨zd, rfl⟩ : ∃ y_e, zd = y_e + 0 := ⟨zd - 0, by omega⟩
  have q_N := q_g.1
  refine wp_run (k := 1) (pc1 := 1) (l1 := [(0, .ref 34), (1, .int (iN (zp)))]) (st1 := [.int (iN (zp))]) (kr1 := (78, 76)) (h1 := zh) rfl ?_
  refine wp_lt0 (a := zp) rfl (by omega) (fun b_1 => ?_) (fun b_1 => ?_)
  · refine wp_run (k := 1) (pc1 := 17) (l1 := [(0, .ref 34), (1, .int (iN (zp)))]) (st1 := [.int (iN (0))]) (kr1 := (78, 76)) (h1 := zh) rfl ?_
    refine wp_ret (rv := some (.int (iN (0)))) rfl ?_
    exact ⟨by rw [show bI (0 ≤ zp ∧ zp < N) inferInstance = 0 from if_neg (by omega)], rfl⟩
  · refine wp_run (k := 3) (pc1 := 9) (l1 := [(0, .ref 34), (1, .int (iN (zp)))]) (st1 := [.int (iN (N)), .int (iN (zp))]) (kr1 := (78, 76)) (h1 := zh) (Eq.trans (b := (some (9, [(0, .ref 34), (1, .int (iN (zp)))], [.int (zh.1 34 1), .int (iN (zp))], (78, 76), zh) : Option am_C)) rfl (by simp only [q_nm.1, Int32.ofInt_add, Int32.ofInt_sub, Int32.ofInt_mul, Int32.ofInt_neg])) ?_
    refine wp_ge (a := zp) (b := N) rfl (by omega) (by omega) (fun b_9 => ?_) (fun b_9 => ?_)
    · refine wp_run (k := 1) (pc1 := 17) (l1 := [(0, .ref 34), (1, .int (iN (zp)))]) (st1 := [.int (iN (0))]) (kr1 := (78, 76)) (h1 := zh) rfl ?_
      refine wp_ret (rv := some (.int (iN (0)))) rfl ?_
      exact ⟨by rw [show bI (0 ≤ zp ∧ zp < N) inferInstance = 0 from if_neg (by omega)], rfl⟩
    · refine wp_run (k := 2) (pc1 := 17) (l1 := [(0, .ref 34), (1, .int (iN (zp)))]) (st1 := [.int (iN (1))]) (kr1 := (78, 76)) (h1 := zh) rfl ?_
      refine wp_ret (rv := some (.int (iN (1)))) rfl ?_
      exact ⟨by rw [show bI (0 ≤ zp ∧ zp < N) inferInstance = 1 from if_pos (by omega)], rfl⟩
set_option maxRecDepth 20000 in
set_option maxHeartbeats 4000000 in
theorem jt_value_34 (zd : Nat) (q_d : 0 ≤ zd) {zh : am_H} {N : Int} {G : Int → Int → Int} {S T : Int} {zp zw : Int} (q_nm : zNm (zh.1 34) (zh.1 35) N G S T) (q_g : zGk N G S T) (q_p : 0 ≤ zp ∧ zp < N) (q_w : 0 ≤ zw ∧ zw < 6) : am_wp zd am_m_Numbers_value 0 [(0, .ref 34), (1, .int (iN (zp))), (2, .int (iN (zw)))] [] (78, 76) zh (78, 76) (fun rv h' => rv = some (.int (iN (G zw zp))) ∧ zh = h') := by
  obtain ⟨zd, rfl⟩ : ∃ y_e, zd = y_e + 0 := ⟨zd - 0, by omega⟩
  have q_N := q_g.1
  refine wp_run (k := 1) (pc1 := 1) (l1 := [(0, .ref 34), (1, .int (iN (zp))), (2, .int (iN (zw)))]) (st1 := [.int (iN (zp))]) (kr1 := (78, 76)) (h1 := zh) rfl ?_
  refine wp_lt0 (a := zp) rfl (by omega) (fun b_1 => ?_) (fun b_1 => ?_)
  · exact absurd b_1 (by omega)
  · refine wp_run (k := 3) (pc1 := 9) (l1 := [(0, .ref 34), (1, .int (iN (zp))), (2, .int (iN (zw)))]) (st1 := [.int (iN (N)), .int (iN (zp))]) (kr1 := (78, 76)) (h1 := zh) (Eq.trans (b := (some (9, [(0, .ref 34), (1, .int (iN (zp))), (2, .int (iN (zw)))], [.int (zh.1 34 1), .int (iN (zp))], (78, 76), zh) : Option am_C)) rfl (by simp only [q_nm.1, Int32.ofInt_add, Int32.ofInt_sub, Int32.ofInt_mul, Int32.ofInt_neg])) ?_
    refine wp_ge (a := zp) (b := N) rfl (by omega) (by omega) (fun b_9 => ?_) (fun b_9 => ?_)
    · exact absurd b_9 (by omega)
    · refine wp_run (k := 1) (pc1 := 13) (l1 := [(0, .ref 34), (1, .int (iN (zp))), (2, .int (iN (zw)))]) (st1 := [.int (iN (zw))]) (kr1 := (78, 76)) (h1 := zh) rfl ?_
      refine wp_lt0 (a := zw) rfl (by omega) (fun b_13 => ?_) (fun b_13 => ?_)
      · exact absurd b_13 (by omega)
      · refine wp_run (k := 2) (pc1 := 19) (l1 := [(0, .ref 34), (1, .int (iN (zp))), (2, .int (iN (zw)))]) (st1 := [.int (iN (6)), .int (iN (zw))]) (kr1 := (78, 76)) (h1 := zh) rfl ?_
        refine wp_lt (a := zw) (b := 6) rfl (by omega) (by omega) (fun b_19 => ?_) (fun b_19 => ?_)
        · refine wp_run (k := 9) (pc1 := 36) (l1 := [(0, .ref 34), (1, .int (iN (zp))), (2, .int (iN (zw))), (3, .int (iN (((zw) * (16)) + (zp))))]) (st1 := [.ref 35, .int (iN (((zw) * (16)) + (zp)))]) (kr1 := (78, 76)) (h1 := zh) (Eq.trans (b := (some (36, [(0, .ref 34), (1, .int (iN (zp))), (2, .int (iN (zw))), (3, .int (((iN (zw)) * (iN (16))) + (iN (zp))))], [.ref 35, .int (((iN (zw)) * (iN (16))) + (iN (zp)))], (78, 76), zh) : Option am_C)) rfl (by simp only [Int32.ofInt_add, Int32.ofInt_sub, Int32.ofInt_mul, Int32.ofInt_neg])) ?_
          refine wp_alen (v := 98) rfl rfl ?_
          refine wp_ge (a := ((zw) * (16)) + (zp)) (b := 98) rfl (by omega) (by omega) (fun b_37 => ?_) (fun b_37 => ?_)
          · exact absurd b_37 (by omega)
          · refine wp_run (k := 3) (pc1 := 45) (l1 := [(0, .ref 34), (1, .int (iN (zp))), (2, .int (iN (zw))), (3, .int (iN (((zw) * (16)) + (zp))))]) (st1 := [.int (iN (((zw) * (16)) + (zp))), .ref 35]) (kr1 := (78, 76)) (h1 := zh) rfl ?_
            refine wp_iald (f := zh.1 35) (z := ((zw) * (16)) + (zp)) (j := (16 * zw + zp).toNat) (n := 98) (v := iN (G zw zp)) rfl rfl (by omega) (by omega) (by decide) (q_nm.2.1 zw zp (by omega) (by omega) (by omega) (by omega)) ?_
            refine wp_run (k := 1) (pc1 := 50) (l1 := [(0, .ref 34), (1, .int (iN (zp))), (2, .int (iN (zw))), (3, .int (iN (((zw) * (16)) + (zp))))]) (st1 := [.int (iN (G zw zp))]) (kr1 := (78, 76)) (h1 := zh) rfl ?_
            refine wp_ret (rv := some (.int (iN (G zw zp)))) rfl ?_
            exact ⟨rfl, rfl⟩
        · exact absurd b_19 (by omega)
set_option maxRecDepth 20000 in
set_option maxHeartbeats 4000000 in
theorem jt_store_34 (zd : Nat) (q_d : 1 ≤ zd) {zh : am_H} {N : Int} {G : Int → Int → Int} {S T : Int} (q_nm : zNm (zh.1 34) (zh.1 35) N G S T) (q_g : zGk N G S T) : am_wp zd am_m_Numbers_store 0 [(0, .ref 34)] [] (78, 76) zh (78, 76) (fun rv h' => rv = some (.int (iN (S))) ∧ zh = h') := by
  obtain ⟨zd, rfl⟩ : ∃ y_e, zd = y_e + 1 := ⟨zd - 1, by omega⟩
  refine wp_run (k := 3) (pc1 := 6) (l1 := [(0, .ref 34)]) (st1 := [.int (iN (96)), .ref 35]) (kr1 := (78, 76)) (h1 := zh) rfl ?_
  refine wp_call (md1 := am_m_Lp_at) (As := [.ref 35, .int (iN (96))]) (rest := []) (kr1 := (78, 76)) rfl (jt_at _ (by omega) (zn := 98) (zi := 96) (zv := iN S) rfl rfl (by decide) (by omega) (by omega) (q_nm.2.2.1)) ?_
  rintro _ _ ⟨rfl, rfl⟩
  refine wp_ret (rv := some (.int (iN S))) rfl ?_
  exact ⟨rfl, rfl⟩
set_option maxRecDepth 20000 in
set_option maxHeartbeats 4000000 in
theorem jt_lateMayBe_34 (zd : Nat) (q_d : 1 ≤ zd) {zh : am_H} {N : Int} {G : Int → Int → Int} {S T : Int} (q_nm : zNm (zh.1 34) (zh.1 35) N G S T) (q_g : zGk N G S T) : am_wp zd am_m_Numbers_lateMayBe 0 [(0, .ref 34)] [] (78, 76) zh (78, 76) (fun rv h' => rv = some (.int (iN (T))) ∧ zh = h') := by
  obtain ⟨zd, rfl⟩ : ∃ y_e, zd = y_e + 1 := ⟨zd - 1, by omega⟩
  refine wp_run (k := 3) (pc1 := 6) (l1 := [(0, .ref 34)]) (st1 := [.int (iN (97)), .ref 35]) (kr1 := (78, 76)) (h1 := zh) rfl ?_
  refine wp_call (md1 := am_m_Lp_at) (As := [.ref 35, .int (iN (97))]) (rest := []) (kr1 := (78, 76)) rfl (jt_at _ (by omega) (zn := 98) (zi := 97) (zv := iN T) rfl rfl (by decide) (by omega) (by omega) (q_nm.2.2.2)) ?_
  rintro _ _ ⟨rfl, rfl⟩
  refine wp_ret (rv := some (.int (iN T))) rfl ?_
  exact ⟨rfl, rfl⟩
set_option maxRecDepth 20000 in
set_option maxHeartbeats 4000000 in
theorem jl_pieces_34 (zd : Nat) (q_d : 1 ≤ zd) {zh : am_H} {N : Int} {G : Int → Int → Int} {S T : Int} {za zb : Int} (q_nm : zNm (zh.1 34) (zh.1 35) N G S T) (q_g : zGk N G S T) (q_0 : 0 ≤ za ∧ za ≤ zb + 1 ∧ zb < N) {zQ : Option Value → am_H → Prop} (zk : ∀ zv : Int, zv = zPi G (zb + 1) - zPi G za → zQ (some (.int (iN zv))) zh) : ∀ (z_n : Nat) (zp : Int) (zs : Int) (q_p : za ≤ zp ∧ zp ≤ zb + 1) (q_z : zs = zPi G zp - zPi G za), zb + 1 - zp < (z_n : Int) → am_wp zd am_m_Numbers_pieces 5 [(0, .ref 34), (1, .int (iN (za))), (2, .int (iN (zb))), (3, .int (iN (zs))), (4, .int (iN (zp)))] [] (78, 76) zh (78, 76) zQ := by
  obtain ⟨zd, rfl⟩ : ∃ y_e, zd = y_e + 1 := ⟨zd - 1, by omega⟩
  intro z_n
  induction z_n with
  | zero => intro zp zs q_p q_z q_m; omega
  | succ z_n z_ih =>
    intro zp zs q_p q_z q_m
    have q_N := q_g.1
    refine wp_run (k := 2) (pc1 := 8) (l1 := [(0, .ref 34), (1, .int (iN (za))), (2, .int (iN (zb))), (3, .int (iN (zs))), (4, .int (iN (zp)))]) (st1 := [.int (iN (zb)), .int (iN (zp))]) (kr1 := (78, 76)) (h1 := zh) rfl ?_
    refine wp_gt (a := zp) (b := zb) rfl (by omega) (by omega) (fun b_8 => ?_) (fun b_8 => ?_)
    · refine wp_run (k := 1) (pc1 := 37) (l1 := [(0, .ref 34), (1, .int (iN (za))), (2, .int (iN (zb))), (3, .int (iN (zs))), (4, .int (iN (zp)))]) (st1 := [.int (iN (zs))]) (kr1 := (78, 76)) (h1 := zh) rfl ?_
      refine wp_ret (rv := some (.int (iN (zs)))) rfl ?_
      refine zk _ ?_
      rw [q_z, show zp = zb + 1 by omega]
    · refine wp_run (k := 3) (pc1 := 17) (l1 := [(0, .ref 34), (1, .int (iN (za))), (2, .int (iN (zb))), (3, .int (iN (zs))), (4, .int (iN (zp)))]) (st1 := [.int (iN (N)), .int (iN (zp))]) (kr1 := (78, 76)) (h1 := zh) (Eq.trans (b := (some (17, [(0, .ref 34), (1, .int (iN (za))), (2, .int (iN (zb))), (3, .int (iN (zs))), (4, .int (iN (zp)))], [.int (zh.1 34 1), .int (iN (zp))], (78, 76), zh) : Option am_C)) rfl (by simp only [q_nm.1, Int32.ofInt_add, Int32.ofInt_sub, Int32.ofInt_mul, Int32.ofInt_neg])) ?_
      refine wp_ge (a := zp) (b := N) rfl (by omega) (by omega) (fun b_17 => ?_) (fun b_17 => ?_)
      · exact absurd b_17 (by omega)
      · refine wp_run (k := 4) (pc1 := 25) (l1 := [(0, .ref 34), (1, .int (iN (za))), (2, .int (iN (zb))), (3, .int (iN (zs))), (4, .int (iN (zp)))]) (st1 := [.int (iN (0)), .int (iN (zp)), .ref 34, .int (iN (zs))]) (kr1 := (78, 76)) (h1 := zh) rfl ?_
        refine wp_call (md1 := am_m_Numbers_value) (As := [.ref 34, .int (iN (zp)), .int (iN (0))]) (rest := [.int (iN (zs))]) (kr1 := (78, 76)) rfl (jt_value_34 _ (by omega) q_nm q_g (zp := zp) (zw := 0) (by omega) (by omega)) ?_
        rintro _ _ ⟨rfl, rfl⟩
        refine wp_run (k := 4) (pc1 := 5) (l1 := [(0, .ref 34), (1, .int (iN (za))), (2, .int (iN (zb))), (3, .int (iN ((zs) + (G (0) (zp))))), (4, .int (iN ((zp) + 1)))]) (st1 := []) (kr1 := (78, 76)) (h1 := zh) (Eq.trans (b := (some (5, [(0, .ref 34), (1, .int (iN (za))), (2, .int (iN (zb))), (3, .int ((iN (zs)) + (iN (G (0) (zp))))), (4, .int ((iN (zp)) + iN (1)))], [], (78, 76), zh) : Option am_C)) rfl (by simp only [Int32.ofInt_add, Int32.ofInt_sub, Int32.ofInt_mul, Int32.ofInt_neg])) ?_
        exact z_ih ((zp) + 1) ((zs) + (G (0) (zp))) (by omega) (by rw [q_z, zPi_s G zp (by omega)]; omega) (by omega)
set_option maxRecDepth 20000 in
set_option maxHeartbeats 4000000 in
theorem jt_pieces_34 (zd : Nat) (q_d : 1 ≤ zd) {zh : am_H} {N : Int} {G : Int → Int → Int} {S T : Int} {za zb : Int} (q_nm : zNm (zh.1 34) (zh.1 35) N G S T) (q_g : zGk N G S T) (q_0 : 0 ≤ za ∧ za ≤ zb + 1 ∧ zb < N) : am_wp zd am_m_Numbers_pieces 0 [(0, .ref 34), (1, .int (iN (za))), (2, .int (iN (zb)))] [] (78, 76) zh (78, 76) (fun rv h' => rv = some (.int (iN (zD G za zb))) ∧ zh = h') := by
  obtain ⟨zd, rfl⟩ : ∃ y_e, zd = y_e + 1 := ⟨zd - 1, by omega⟩
  have q_N := q_g.1
  refine wp_run (k := 4) (pc1 := 5) (l1 := [(0, .ref 34), (1, .int (iN (za))), (2, .int (iN (zb))), (3, .int (iN (0))), (4, .int (iN (za)))]) (st1 := []) (kr1 := (78, 76)) (h1 := zh) rfl ?_
  exact jl_pieces_34 _ (by omega) q_nm q_g q_0 (fun zv q_v => ⟨by rw [q_v]; rfl, rfl⟩) (zb + 2 - za).toNat za 0 (by omega) (by omega) (by omega)
set_option maxRecDepth 20000 in
set_option maxHeartbeats 4000000 in
theorem jt_stockCost_34 (zd : Nat) (q_d : 1 ≤ zd) {zh : am_H} {N : Int} {G : Int → Int → Int} {S T : Int} {zp zs : Int} (q_nm : zNm (zh.1 34) (zh.1 35) N G S T) (q_g : zGk N G S T) (q_p : 0 ≤ zp ∧ zp < N) (q_s : -2147483648 ≤ zs ∧ zs < 2147483648) : am_wp zd am_m_Numbers_stockCost 0 [(0, .ref 34), (1, .int (iN (zp))), (2, .int (iN (zs)))] [] (78, 76) zh (78, 76) (fun rv h' => rv = some (.int (iN (if 0 < zs then zs * G 3 zp else -zs * G 4 zp))) ∧ zh = h') := by
  obtain ⟨zd, rfl⟩ : ∃ y_e, zd = y_e + 1 := ⟨zd - 1, by omega⟩
  have q_N := q_g.1
  refine wp_run (k := 1) (pc1 := 1) (l1 := [(0, .ref 34), (1, .int (iN (zp))), (2, .int (iN (zs)))]) (st1 := [.int (iN (zs))]) (kr1 := (78, 76)) (h1 := zh) rfl ?_
  refine wp_le0 (a := zs) rfl (by omega) (fun b_1 => ?_) (fun b_1 => ?_)
  · refine wp_run (k := 5) (pc1 := 20) (l1 := [(0, .ref 34), (1, .int (iN (zp))), (2, .int (iN (zs)))]) (st1 := [.int (iN (4)), .int (iN (zp)), .ref 34, .int (iN (-(zs)))]) (kr1 := (78, 76)) (h1 := zh) (Eq.trans (b := (some (20, [(0, .ref 34), (1, .int (iN (zp))), (2, .int (iN (zs)))], [.int (iN (4)), .int (iN (zp)), .ref 34, .int (-(iN (zs)))], (78, 76), zh) : Option am_C)) rfl (by simp only [Int32.ofInt_add, Int32.ofInt_sub, Int32.ofInt_mul, Int32.ofInt_neg])) ?_
    refine wp_call (md1 := am_m_Numbers_value) (As := [.ref 34, .int (iN (zp)), .int (iN (4))]) (rest := [.int (iN (-(zs)))]) (kr1 := (78, 76)) rfl (jt_value_34 _ (by omega) q_nm q_g (zp := zp) (zw := 4) (by omega) (by omega)) ?_
    rintro _ _ ⟨rfl, rfl⟩
    refine wp_run (k := 1) (pc1 := 24) (l1 := [(0, .ref 34), (1, .int (iN (zp))), (2, .int (iN (zs)))]) (st1 := [.int (iN ((-(zs)) * (G (4) (zp))))]) (kr1 := (78, 76)) (h1 := zh) (Eq.trans (b := (some (24, [(0, .ref 34), (1, .int (iN (zp))), (2, .int (iN (zs)))], [.int ((iN (-(zs))) * (iN (G (4) (zp))))], (78, 76), zh) : Option am_C)) rfl (by simp only [Int32.ofInt_add, Int32.ofInt_sub, Int32.ofInt_mul, Int32.ofInt_neg])) ?_
    refine wp_ret (rv := some (.int (iN ((-(zs)) * (G (4) (zp)))))) rfl ?_
    exact ⟨by rw [show (if 0 < zs then zs * G 3 zp else -zs * G 4 zp) = (-(zs)) * (G (4) (zp)) from if_neg (by omega)], rfl⟩
  · refine wp_run (k := 4) (pc1 := 8) (l1 := [(0, .ref 34), (1, .int (iN (zp))), (2, .int (iN (zs)))]) (st1 := [.int (iN (3)), .int (iN (zp)), .ref 34, .int (iN (zs))]) (kr1 := (78, 76)) (h1 := zh) rfl ?_
    refine wp_call (md1 := am_m_Numbers_value) (As := [.ref 34, .int (iN (zp)), .int (iN (3))]) (rest := [.int (iN (zs))]) (kr1 := (78, 76)) rfl (jt_value_34 _ (by omega) q_nm q_g (zp := zp) (zw := 3) (by omega) (by omega)) ?_
    rintro _ _ ⟨rfl, rfl⟩
    refine wp_run (k := 2) (pc1 := 24) (l1 := [(0, .ref 34), (1, .int (iN (zp))), (2, .int (iN (zs)))]) (st1 := [.int (iN ((zs) * (G (3) (zp))))]) (kr1 := (78, 76)) (h1 := zh) (Eq.trans (b := (some (24, [(0, .ref 34), (1, .int (iN (zp))), (2, .int (iN (zs)))], [.int ((iN (zs)) * (iN (G (3) (zp))))], (78, 76), zh) : Option am_C)) rfl (by simp only [Int32.ofInt_add, Int32.ofInt_sub, Int32.ofInt_mul, Int32.ofInt_neg])) ?_
    refine wp_ret (rv := some (.int (iN ((zs) * (G (3) (zp)))))) rfl ?_
    exact ⟨by rw [show (if 0 < zs then zs * G 3 zp else -zs * G 4 zp) = (zs) * (G (3) (zp)) from if_pos (by omega)], rfl⟩
