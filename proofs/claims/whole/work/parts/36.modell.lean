/-! THE REFERENCE's leastLot -/
theorem zLc_s (G : Int → Int → Int) (T a b m : Int) (q : a ≤ m) : zLc G T a b (m + 1 - a).toNat = if zIsL G T a b m ∧ zCo G a b m < zLc G T a b (m - a).toNat then zCo G a b m else zLc G T a b (m - a).toNat := by
  rw [show (m + 1 - a).toNat = (m - a).toNat + 1 by omega]
  show (if zIsL G T a b (a + ((m - a).toNat : Int)) ∧ zCo G a b (a + ((m - a).toNat : Int)) < zLc G T a b (m - a).toNat then zCo G a b (a + ((m - a).toNat : Int)) else zLc G T a b (m - a).toNat) = _
  rw [show a + ((m - a).toNat : Int) = m by omega]
set_option maxRecDepth 20000 in
set_option maxHeartbeats 4000000 in
theorem jl_leastLot (zd : Nat) (q_d : 4 ≤ zd) {zh : am_H} {N : Int} {G : Int → Int → Int} {S T : Int} {za zb : Int} (q_nm : zMm (zh.1 55) (zh.1 56) N G S T) (q_g : zGk N G S T) (q_0 : 0 ≤ za ∧ za ≤ zb ∧ zb < N) {zQ : Option Value → am_H → Prop} (zk : ∀ zv : Int, zv = zLc G T za zb (zb + 1 - za).toNat → zQ (some (.int (iN zv))) zh) : ∀ (z_n : Nat) (zm : Int) (zv : Int) (q_m : za ≤ zm ∧ zm ≤ zb + 1) (q_v : 0 ≤ zv ∧ zv ≤ 1000000000) (q_z : zv = zLc G T za zb (zm - za).toNat), zb + 1 - zm < (z_n : Int) → am_wp zd am_m_Model_leastLot 6 [(0, .ref 55), (1, .int (iN (za))), (2, .int (iN (zb))), (3, .int (iN (zv))), (4, .int (iN (zm)))] [] (78, 76) zh (78, 76) zQ := by
  obtain ⟨zd, rfl⟩ : ∃ y_e, zd = y_e + 4 := ⟨zd - 4, by omega⟩
  intro z_n
  induction z_n with
  | zero => intro zm zv q_m q_v q_z q_m; omega
  | succ z_n z_ih =>
    intro zm zv q_m q_v q_z q_m
    have q_N := q_g.1
    refine wp_run (k := 2) (pc1 := 9) (l1 := [(0, .ref 55), (1, .int (iN (za))), (2, .int (iN (zb))), (3, .int (iN (zv))), (4, .int (iN (zm)))]) (st1 := [.int (iN (zb)), .int (iN (zm))]) (kr1 := (78, 76)) (h1 := zh) rfl ?_
    refine wp_gt (a := zm) (b := zb) rfl (by omega) (by omega) (fun b_9 => ?_) (fun b_9 => ?_)
    · refine wp_run (k := 1) (pc1 := 43) (l1 := [(0, .ref 55), (1, .int (iN (za))), (2, .int (iN (zb))), (3, .int (iN (zv))), (4, .int (iN (zm)))]) (st1 := [.int (iN (zv))]) (kr1 := (78, 76)) (h1 := zh) rfl ?_
      refine wp_ret (rv := some (.int (iN (zv)))) rfl ?_
      refine zk _ ?_
      rw [q_z, show zm = zb + 1 by omega]
    · have y_c := zCo_rg q_g (a := za) (b := zb) (m := zm) (by omega) (by omega) (by omega) (by omega)
      refine wp_run (k := 4) (pc1 := 17) (l1 := [(0, .ref 55), (1, .int (iN (za))), (2, .int (iN (zb))), (3, .int (iN (zv))), (4, .int (iN (zm)))]) (st1 := [.int (iN (zm)), .int (iN (zb)), .int (iN (za)), .ref 55]) (kr1 := (78, 76)) (h1 := zh) rfl ?_
      refine wp_call (md1 := am_m_Model_isLot) (As := [.ref 55, .int (iN (za)), .int (iN (zb)), .int (iN (zm))]) (rest := []) (kr1 := (78, 76)) rfl (jm_isLot _ (by omega) q_nm q_g (za := za) (zb := zb) (zm := zm) (by omega)) ?_
      rintro _ _ ⟨rfl, rfl⟩
      refine wp_eqb rfl (fun b_20 => ?_) (fun b_20 => ?_)
      · refine wp_run (k := 2) (pc1 := 6) (l1 := [(0, .ref 55), (1, .int (iN (za))), (2, .int (iN (zb))), (3, .int (iN (zv))), (4, .int (iN ((zm) + 1)))]) (st1 := []) (kr1 := (78, 76)) (h1 := zh) (Eq.trans (b := (some (6, [(0, .ref 55), (1, .int (iN (za))), (2, .int (iN (zb))), (3, .int (iN (zv))), (4, .int ((iN (zm)) + iN (1)))], [], (78, 76), zh) : Option am_C)) rfl (by simp only [Int32.ofInt_add, Int32.ofInt_sub, Int32.ofInt_mul, Int32.ofInt_neg])) ?_
        refine z_ih (zm + 1) (zv) (by omega) (by omega) ?_ (by omega)
        rw [zLc_s G T za zb zm (by omega), ← q_z]
        rw [if_neg (fun y => b_20 y.1)]
      · refine wp_run (k := 5) (pc1 := 29) (l1 := [(0, .ref 55), (1, .int (iN (za))), (2, .int (iN (zb))), (3, .int (iN (zv))), (4, .int (iN (zm)))]) (st1 := [.int (iN (zm)), .int (iN (zb)), .int (iN (za)), .ref 55, .int (iN (zv))]) (kr1 := (78, 76)) (h1 := zh) rfl ?_
        refine wp_call (md1 := am_m_Model_cost) (As := [.ref 55, .int (iN (za)), .int (iN (zb)), .int (iN (zm))]) (rest := [.int (iN (zv))]) (kr1 := (78, 76)) rfl (jm_cost _ (by omega) q_nm q_g (za := za) (zb := zb) (zm := zm) (by omega)) ?_
        rintro _ _ ⟨rfl, rfl⟩
        refine wp_now (rest := [.int (if iN (zCo G za zb zm) < iN (zv) then iN (zCo G za zb zm) else iN (zv))]) rfl ?_
        rw [show (if iN (zCo G za zb zm) < iN (zv) then iN (zCo G za zb zm) else iN (zv)) = iN (min (zv) (zCo G za zb zm)) from iN_min (by omega) (by omega)]
        refine wp_run (k := 3) (pc1 := 6) (l1 := [(0, .ref 55), (1, .int (iN (za))), (2, .int (iN (zb))), (3, .int (iN (min (zv) (zCo G za zb zm)))), (4, .int (iN ((zm) + 1)))]) (st1 := []) (kr1 := (78, 76)) (h1 := zh) (Eq.trans (b := (some (6, [(0, .ref 55), (1, .int (iN (za))), (2, .int (iN (zb))), (3, .int (iN (min (zv) (zCo G za zb zm)))), (4, .int ((iN (zm)) + iN (1)))], [], (78, 76), zh) : Option am_C)) rfl (by simp only [Int32.ofInt_add, Int32.ofInt_sub, Int32.ofInt_mul, Int32.ofInt_neg])) ?_
        refine z_ih (zm + 1) (min (zv) (zCo G za zb zm)) (by omega) (by omega) ?_ (by omega)
        rw [zLc_s G T za zb zm (by omega), ← q_z]
        by_cases y5 : zCo G za zb zm < zv
        · rw [if_pos ⟨b_20, y5⟩]; omega
        · rw [if_neg (fun y => y5 y.2)]; omega
set_option maxRecDepth 20000 in
set_option maxHeartbeats 4000000 in
theorem jm_leastLot (zd : Nat) (q_d : 4 ≤ zd) {zh : am_H} {N : Int} {G : Int → Int → Int} {S T : Int} {za zb : Int} (q_nm : zMm (zh.1 55) (zh.1 56) N G S T) (q_g : zGk N G S T) (q_0 : 0 ≤ za ∧ za ≤ zb ∧ zb < N) : am_wp zd am_m_Model_leastLot 0 [(0, .ref 55), (1, .int (iN (za))), (2, .int (iN (zb)))] [] (78, 76) zh (78, 76) (fun rv h' => rv = some (.int (iN (zLc G T za zb (zb + 1 - za).toNat))) ∧ zh = h') := by
  obtain ⟨zd, rfl⟩ : ∃ y_e, zd = y_e + 4 := ⟨zd - 4, by omega⟩
  have q_N := q_g.1
  refine wp_run (k := 4) (pc1 := 6) (l1 := [(0, .ref 55), (1, .int (iN (za))), (2, .int (iN (zb))), (3, .int (iN (1000000000))), (4, .int (iN (za)))]) (st1 := []) (kr1 := (78, 76)) (h1 := zh) rfl ?_
  exact jl_leastLot _ (by omega) q_nm q_g q_0 (fun zv q_v => ⟨by rw [q_v], rfl⟩) 20 za 1000000000 (by omega) (by omega) (by rw [show (za - za).toNat = 0 by omega]; rfl) (by omega)
