/-! THE REFERENCE's forwards, forwardOf, lastOf -/
def zFo (G : Int → Int → Int) (T zt : Int) : Nat → Int
  | 0 => 1000000000
  | k + 1 => if zD G k (zt - 1) = 0 then min (zFo G T zt k) (zTv G T k) else zFo G T zt k
theorem zFo_s (G : Int → Int → Int) (T zt e : Int) (q : 0 ≤ e) : zFo G T zt (e + 1).toNat = if zD G e (zt - 1) = 0 then min (zFo G T zt e.toNat) (zTv G T e) else zFo G T zt e.toNat := by
  rw [show (e + 1).toNat = e.toNat + 1 by omega]
  show (if zD G (e.toNat : Int) (zt - 1) = 0 then min (zFo G T zt e.toNat) (zTv G T (e.toNat : Int)) else zFo G T zt e.toNat) = _
  rw [show (e.toNat : Int) = e by omega]
def zLi (G : Int → Int → Int) (T v e : Int) (l : Int) : Nat → Int
  | 0 => l
  | k + 1 => if zPa G T v e k then max (zLi G T v e l k) k else zLi G T v e l k
theorem zLi_s (G : Int → Int → Int) (T v e l a : Int) (q : 0 ≤ a) : zLi G T v e l (a + 1).toNat = if zPa G T v e a then max (zLi G T v e l a.toNat) a else zLi G T v e l a.toNat := by
  rw [show (a + 1).toNat = a.toNat + 1 by omega]
  show (if zPa G T v e (a.toNat : Int) then max (zLi G T v e l a.toNat) (a.toNat : Int) else zLi G T v e l a.toNat) = _
  rw [show (a.toNat : Int) = a by omega]
def zLo (G : Int → Int → Int) (T zt v : Int) : Nat → Int
  | 0 => -2
  | k + 1 => if zD G (k + 1) (zt - 1) = 0 ∧ zTv G T (k + 1) = v then zLi G T v (k + 1) (zLo G T zt v k) (k + 1) else zLo G T zt v k
theorem zLo_s (G : Int → Int → Int) (T zt v e : Int) (q : 1 ≤ e) : zLo G T zt v (e + 1 - 1).toNat = if zD G e (zt - 1) = 0 ∧ zTv G T e = v then zLi G T v e (zLo G T zt v (e - 1).toNat) e.toNat else zLo G T zt v (e - 1).toNat := by
  rw [show (e + 1 - 1).toNat = (e - 1).toNat + 1 by omega]
  show (if zD G (((e - 1).toNat : Int) + 1) (zt - 1) = 0 ∧ zTv G T (((e - 1).toNat : Int) + 1) = v then zLi G T v (((e - 1).toNat : Int) + 1) (zLo G T zt v (e - 1).toNat) ((e - 1).toNat + 1) else zLo G T zt v (e - 1).toNat) = _
  rw [show ((e - 1).toNat : Int) + 1 = e by omega, show (e - 1).toNat + 1 = e.toNat by omega]
section LM
variable {N : Int} {G : Int → Int → Int} {S T : Int}
theorem zFo_rg (q_g : zGk N G S T) {zt : Int} (q_t : zt ≤ N) : ∀ k : Nat, (k : Int) ≤ zt + 1 → 0 ≤ zFo G T zt k ∧ zFo G T zt k ≤ 1000000000 := by
  intro k
  induction k with
  | zero => intro _; exact ⟨by show (0 : Int) ≤ 1000000000; decide, by show (1000000000 : Int) ≤ 1000000000; decide⟩
  | succ k z_ih =>
    intro q
    have y1 := z_ih (by omega)
    have y2 := zTv_r q_g (T := T) (x := k) (by omega) (by omega)
    show 0 ≤ (if zD G k (zt - 1) = 0 then min (zFo G T zt k) (zTv G T k) else zFo G T zt k) ∧ (if zD G k (zt - 1) = 0 then min (zFo G T zt k) (zTv G T k) else zFo G T zt k) ≤ 1000000000
    split <;> omega
theorem zFo_e (q_g : zGk N G S T) {zt : Int} (q_t : 0 ≤ zt ∧ zt ≤ N) : zFo G T zt (zt + 1).toNat = (zWd G T zt).1 := by
  have y_d := zD_rg q_g (a := 0) (b := zt - 1) (by omega) (by omega) (by omega)
  have y_w := zWd_t q_g (T := T) (x := zt) (by omega) (by omega)
  by_cases y1 : zD G 0 (zt - 1) = 0
  · rw [y_w.2 y1]
    have key : ∀ k : Nat, (k : Int) ≤ zt → 0 ≤ zFo G T zt (k + 1) ∧ zFo G T zt (k + 1) ≤ 0 := by
      intro k
      induction k with
      | zero =>
        intro _
        show 0 ≤ (if zD G ((0 : Nat) : Int) (zt - 1) = 0 then min (zFo G T zt 0) (zTv G T ((0 : Nat) : Int)) else zFo G T zt 0) ∧ (if zD G ((0 : Nat) : Int) (zt - 1) = 0 then min (zFo G T zt 0) (zTv G T ((0 : Nat) : Int)) else zFo G T zt 0) ≤ 0
        have e0 : zTv G T ((0 : Nat) : Int) = 0 := zTv_0 G T
        have e1 : zFo G T zt 0 = 1000000000 := rfl
        have e2 : zD G ((0 : Nat) : Int) (zt - 1) = 0 := y1
        rw [if_pos e2, e0, e1]
        decide
      | succ k z_ih =>
        intro q
        have y2 := z_ih (by omega)
        have y3 := zTv_r q_g (T := T) (x := ((k + 1 : Nat) : Int)) (by omega) (by omega)
        show 0 ≤ (if zD G ((k + 1 : Nat) : Int) (zt - 1) = 0 then min (zFo G T zt (k + 1)) (zTv G T ((k + 1 : Nat) : Int)) else zFo G T zt (k + 1)) ∧ (if zD G ((k + 1 : Nat) : Int) (zt - 1) = 0 then min (zFo G T zt (k + 1)) (zTv G T ((k + 1 : Nat) : Int)) else zFo G T zt (k + 1)) ≤ 0
        split <;> omega
    have y4 := key zt.toNat (by omega)
    rw [show (zt + 1).toNat = zt.toNat + 1 by omega]
    show _ = (0 : Int)
    omega
  · have y2 := y_w.1 (by omega)
    rw [y2.1]
    have key : ∀ k : Nat, (k : Int) ≤ zt + 1 → zTv G T zt ≤ zFo G T zt k := by
      intro k
      induction k with
      | zero => intro _; show _ ≤ (1000000000 : Int); omega
      | succ k z_ih =>
        intro q
        have y3 := z_ih (by omega)
        show _ ≤ (if zD G k (zt - 1) = 0 then min (zFo G T zt k) (zTv G T k) else zFo G T zt k)
        by_cases y4 : zD G k (zt - 1) = 0
        · rw [if_pos y4]
          by_cases y5 : k = 0
          · subst y5; exact absurd y4 y1
          · have y6 := zTv_ext q_g (T := T) (e := k) (u := zt) (by omega) y4
            omega
        · rw [if_neg y4]; exact y3
    have y7 := key (zt + 1).toNat (by omega)
    have y8 := zFo_s G T zt zt (by omega)
    rw [if_pos (show zD G zt (zt - 1) = 0 by unfold zD; rw [show zt - 1 + 1 = zt by omega]; omega)] at y8
    omega
theorem zLi_b {T v e l : Int} : ∀ k : Nat, (zLi G T v e l k = l ∨ (0 ≤ zLi G T v e l k ∧ zLi G T v e l k < k ∧ zPa G T v e (zLi G T v e l k))) ∧ l ≤ zLi G T v e l k ∧ ∀ a : Int, 0 ≤ a → a < k → zPa G T v e a → a ≤ zLi G T v e l k := by
  intro k
  induction k with
  | zero => exact ⟨Or.inl rfl, Int.le_refl _, fun a y1 y2 => by omega⟩
  | succ k z_ih =>
    obtain ⟨y1, y2, y3⟩ := z_ih
    have e1 : zLi G T v e l (k + 1) = if zPa G T v e k then max (zLi G T v e l k) k else zLi G T v e l k := rfl
    rw [e1]
    by_cases y4 : zPa G T v e k
    · rw [if_pos y4]
      refine ⟨?_, by omega, fun a y5 y6 y7 => ?_⟩
      · by_cases y8 : zLi G T v e l k ≤ k
        · rw [show max (zLi G T v e l k) (k : Int) = k by omega]
          exact Or.inr ⟨by omega, by omega, y4⟩
        · rw [show max (zLi G T v e l k) (k : Int) = zLi G T v e l k by omega]
          rcases y1 with y1 | y1
          · exact Or.inl y1
          · omega
      · by_cases y8 : a = k
        · omega
        · have := y3 a y5 (by omega) y7; omega
    · rw [if_neg y4]
      refine ⟨?_, y2, fun a y5 y6 y7 => ?_⟩
      · rcases y1 with y1 | y1
        · exact Or.inl y1
        · exact Or.inr ⟨y1.1, by omega, y1.2.2⟩
      · by_cases y8 : a = k
        · subst y8; exact absurd y7 y4
        · exact y3 a y5 (by omega) y7
theorem zLo_b (q_g : zGk N G S T) {zt : Int} (q_t : zt ≤ N) : ∀ k : Nat, (k : Int) ≤ zt → zLo G T zt (zTv G T zt) k = -2 ∨ (0 ≤ zLo G T zt (zTv G T zt) k ∧ zLo G T zt (zTv G T zt) k < zt ∧ zPa G T (zTv G T zt) zt (zLo G T zt (zTv G T zt) k)) := by
  intro k
  induction k with
  | zero => intro _; exact Or.inl rfl
  | succ k z_ih =>
    intro q
    have y1 := z_ih (by omega)
    have e1 : zLo G T zt (zTv G T zt) (k + 1) = if zD G (k + 1) (zt - 1) = 0 ∧ zTv G T (k + 1) = zTv G T zt then zLi G T (zTv G T zt) (k + 1) (zLo G T zt (zTv G T zt) k) (k + 1) else zLo G T zt (zTv G T zt) k := rfl
    rw [e1]
    split
    · rename_i y2
      rcases (zLi_b (G := G) (T := T) (v := zTv G T zt) (e := k + 1) (l := zLo G T zt (zTv G T zt) k) (k + 1)).1 with y3 | y3
      · rw [y3]; exact y1
      · exact Or.inr ⟨y3.1, by omega, zPa_ext q_g (by omega) y2.1 y3.2.2⟩
    · exact y1
theorem zLo_rg (q_g : zGk N G S T) {zt v : Int} (q_t : zt ≤ N) : ∀ k : Nat, (k : Int) ≤ zt → -2 ≤ zLo G T zt v k ∧ zLo G T zt v k < max zt 0 := by
  intro k
  induction k with
  | zero => intro _; exact ⟨by show (-2 : Int) ≤ -2; decide, by show (-2 : Int) < _; omega⟩
  | succ k z_ih =>
    intro q
    have y1 := z_ih (by omega)
    have e1 : zLo G T zt v (k + 1) = if zD G (k + 1) (zt - 1) = 0 ∧ zTv G T (k + 1) = v then zLi G T v (k + 1) (zLo G T zt v k) (k + 1) else zLo G T zt v k := rfl
    rw [e1]
    split
    · have y3 := zLi_b (G := G) (T := T) (v := v) (e := k + 1) (l := zLo G T zt v k) (k + 1)
      omega
    · exact y1
theorem zLo_e (q_g : zGk N G S T) {zt : Int} (q_t : 0 ≤ zt ∧ zt ≤ N) (q_d : 0 < zD G 0 (zt - 1)) : zLo G T zt (zTv G T zt) zt.toNat = (zWd G T zt).2 := by
  have y1 := zWd_last q_g (T := T) q_t q_d
  have y2 := zLo_b q_g (T := T) (zt := zt) (by omega) zt.toNat (by omega)
  have y3 := zLo_s G T zt (zTv G T zt) zt (by omega)
  rw [show (zt + 1 - 1).toNat = zt.toNat by omega, if_pos ⟨by unfold zD; rw [show zt - 1 + 1 = zt by omega]; omega, rfl⟩] at y3
  have y4 := (zLi_b (G := G) (T := T) (v := zTv G T zt) (e := zt) (l := zLo G T zt (zTv G T zt) (zt - 1).toNat) zt.toNat).2.2 _ y1.1.1 (by omega) y1.1.2.2
  rcases y2 with y2 | y2
  · omega
  · have y5 := y1.2 _ y2.1 y2.2.1 y2.2.2
    omega
end LM
set_option maxRecDepth 20000 in
set_option maxHeartbeats 4000000 in
theorem jl_mfwA (zd : Nat) (q_d : 5 ≤ zd) {zh : am_H} {N : Int} {G : Int → Int → Int} {S T : Int} {ze : Int} {zg : am_H} (q_nm : zMm (zh.1 55) (zh.1 56) N G S T) (q_g : zGk N G S T) (q_e : 1 ≤ ze ∧ ze ≤ N) (q_f : am_fr [67] zh zg) (q_w : ∀ x : Int, 0 ≤ x → x < ze → zg.1 67 x.toNat = iN (zTv G T x)) {zQ : Option Value → am_H → Prop} (zk : am_wp zd am_m_Model_forwards 87 [(0, .ref 55), (1, .int (iN (ze))), (2, .int (iN (ze)))] [] (78, 76) (am_wr zg 67 ze.toNat (iN (zTs G T ze (zTv G T) (ze : Int).toNat))) (78, 76) zQ) : ∀ (z_n : Nat) (za : Int) (q_a : 0 ≤ za ∧ za ≤ ze), ze - za < (z_n : Int) → am_wp zd am_m_Model_forwards 27 [(0, .ref 55), (1, .int (iN (ze))), (2, .int (iN (za)))] [] (78, 76) (am_wr zg 67 ze.toNat (iN (zTs G T ze (zTv G T) (za : Int).toNat))) (78, 76) zQ := by
  obtain ⟨zd, rfl⟩ : ∃ y_e, zd = y_e + 5 := ⟨zd - 5, by omega⟩
  intro z_n
  induction z_n with
  | zero => intro za q_a q_m; omega
  | succ z_n z_ih =>
    intro za q_a q_m
    have q_N := q_g.1
    refine wp_run (k := 2) (pc1 := 29) (l1 := [(0, .ref 55), (1, .int (iN (ze))), (2, .int (iN (za)))]) (st1 := [.int (iN (ze)), .int (iN (za))]) (kr1 := (78, 76)) (h1 := am_wr zg 67 ze.toNat (iN (zTs G T ze (zTv G T) (za : Int).toNat))) rfl ?_
    refine wp_ge (a := za) (b := ze) rfl (by omega) (by omega) (fun b_29 => ?_) (fun b_29 => ?_)
    · rw [show za = ze by omega]
      exact zk
    · refine wp_run (k := 5) (pc1 := 37) (l1 := [(0, .ref 55), (1, .int (iN (ze))), (2, .int (iN (za)))]) (st1 := [.int (iN ((ze) - (1))), .int (iN (za)), .ref 55]) (kr1 := (78, 76)) (h1 := am_wr zg 67 ze.toNat (iN (zTs G T ze (zTv G T) (za : Int).toNat))) (Eq.trans (b := (some (37, [(0, .ref 55), (1, .int (iN (ze))), (2, .int (iN (za)))], [.int ((iN (ze)) - (iN (1))), .int (iN (za)), .ref 55], (78, 76), am_wr zg 67 ze.toNat (iN (zTs G T ze (zTv G T) (za : Int).toNat))) : Option am_C)) rfl (by simp only [Int32.ofInt_add, Int32.ofInt_sub, Int32.ofInt_mul, Int32.ofInt_neg])) ?_
      refine wp_call (md1 := am_m_Model_leastLot) (As := [.ref 55, .int (iN (za)), .int (iN ((ze) - (1)))]) (rest := []) (kr1 := (78, 76)) rfl (jm_leastLot _ (by omega) (zMm_f (am_fr_w q_f (by decide) _ _) q_nm (by decide) (by decide)) q_g (za := za) (zb := (ze) - (1)) (by omega)) ?_
      rintro _ _ ⟨rfl, rfl⟩
      rw [show zLc G T (za) ((ze) - (1)) ((ze) - (1) + 1 - za).toNat = zLc G T za (ze - 1) (ze - 1 + 1 - za).toNat from rfl]
      refine wp_run (k := 3) (pc1 := 44) (l1 := [(0, .ref 55), (1, .int (iN (ze))), (2, .int (iN (za))), (3, .int (iN (zLc G T za (ze - 1) (ze - 1 + 1 - za).toNat)))]) (st1 := [.int (iN (1000000000)), .int (iN (zLc G T za (ze - 1) (ze - 1 + 1 - za).toNat))]) (kr1 := (78, 76)) (h1 := am_wr zg 67 ze.toNat (iN (zTs G T ze (zTv G T) (za : Int).toNat))) rfl ?_
      have y_c := zLc_rg (T := T) q_g (a := za) (b := ze - 1) (by omega) (by omega) (ze - 1 + 1 - za).toNat (by omega)
      have y_v := zTv_r q_g (T := T) (x := za) (by omega) (by omega)
      have y_s := zTs_rg q_g (T := T) (e := ze) (F := zTv G T) (by omega) (fun y y1 y2 => (zTv_r q_g y1 (by omega)).1) za.toNat (by omega)
      refine wp_ge (a := zLc G T za (ze - 1) (ze - 1 + 1 - za).toNat) (b := 1000000000) rfl (by omega) (by omega) (fun b_44 => ?_) (fun b_44 => ?_)
      · refine wp_run (k := 2) (pc1 := 27) (l1 := [(0, .ref 55), (1, .int (iN (ze))), (2, .int (iN ((za) + 1))), (3, .int (iN (zLc G T za (ze - 1) (ze - 1 + 1 - za).toNat)))]) (st1 := []) (kr1 := (78, 76)) (h1 := am_wr zg 67 ze.toNat (iN (zTs G T ze (zTv G T) (za : Int).toNat))) (Eq.trans (b := (some (27, [(0, .ref 55), (1, .int (iN (ze))), (2, .int ((iN (za)) + iN (1))), (3, .int (iN (zLc G T za (ze - 1) (ze - 1 + 1 - za).toNat)))], [], (78, 76), am_wr zg 67 ze.toNat (iN (zTs G T ze (zTv G T) (za : Int).toNat))) : Option am_C)) rfl (by simp only [Int32.ofInt_add, Int32.ofInt_sub, Int32.ofInt_mul, Int32.ofInt_neg])) ?_
        refine wp_drop [3] (l := [(0, .ref 55), (1, .int (iN (ze))), (2, .int (iN ((za) + 1)))]) rfl rfl ?_
        rw [show zTs G T ze (zTv G T) za.toNat = zTs G T ze (zTv G T) (za + 1).toNat from by rw [zTs_s G T ze _ za (by omega), if_neg (by omega)]]
        exact z_ih (za + 1) (by omega) (by omega)
      · refine wp_run (k := 3) (pc1 := 52) (l1 := [(0, .ref 55), (1, .int (iN (ze))), (2, .int (iN (za))), (3, .int (iN (zLc G T za (ze - 1) (ze - 1 + 1 - za).toNat)))]) (st1 := [.int (iN (za)), .ref 67]) (kr1 := (78, 76)) (h1 := am_wr zg 67 ze.toNat (iN (zTs G T ze (zTv G T) (za : Int).toNat))) rfl ?_
        refine wp_iald (f := (am_wr zg 67 ze.toNat (iN (zTs G T ze (zTv G T) (za : Int).toNat))).1 67) (z := za) (j := za.toNat) (n := 17) (v := iN (zTv G T za)) rfl rfl (by omega) (by omega) (by decide) ((am_wr_no (by omega)).trans (q_w za (by omega) (by omega))) ?_
        refine wp_run (k := 1) (pc1 := 55) (l1 := [(0, .ref 55), (1, .int (iN (ze))), (2, .int (iN (za))), (3, .int (iN (zLc G T za (ze - 1) (ze - 1 + 1 - za).toNat)))]) (st1 := [.int (iN (1000000000)), .int (iN (zTv G T za))]) (kr1 := (78, 76)) (h1 := am_wr zg 67 ze.toNat (iN (zTs G T ze (zTv G T) (za : Int).toNat))) rfl ?_
        refine wp_ge (a := zTv G T za) (b := 1000000000) rfl (by omega) (by omega) (fun b_55 => ?_) (fun b_55 => ?_)
        · refine wp_run (k := 2) (pc1 := 27) (l1 := [(0, .ref 55), (1, .int (iN (ze))), (2, .int (iN ((za) + 1))), (3, .int (iN (zLc G T za (ze - 1) (ze - 1 + 1 - za).toNat)))]) (st1 := []) (kr1 := (78, 76)) (h1 := am_wr zg 67 ze.toNat (iN (zTs G T ze (zTv G T) (za : Int).toNat))) (Eq.trans (b := (some (27, [(0, .ref 55), (1, .int (iN (ze))), (2, .int ((iN (za)) + iN (1))), (3, .int (iN (zLc G T za (ze - 1) (ze - 1 + 1 - za).toNat)))], [], (78, 76), am_wr zg 67 ze.toNat (iN (zTs G T ze (zTv G T) (za : Int).toNat))) : Option am_C)) rfl (by simp only [Int32.ofInt_add, Int32.ofInt_sub, Int32.ofInt_mul, Int32.ofInt_neg])) ?_
          refine wp_drop [3] (l := [(0, .ref 55), (1, .int (iN (ze))), (2, .int (iN ((za) + 1)))]) rfl rfl ?_
          rw [show zTs G T ze (zTv G T) za.toNat = zTs G T ze (zTv G T) (za + 1).toNat from by rw [zTs_s G T ze _ za (by omega), if_neg (by omega)]]
          exact z_ih (za + 1) (by omega) (by omega)
        · refine wp_run (k := 6) (pc1 := 68) (l1 := [(0, .ref 55), (1, .int (iN (ze))), (2, .int (iN (za))), (3, .int (iN (zLc G T za (ze - 1) (ze - 1 + 1 - za).toNat)))]) (st1 := [.int (iN (ze)), .ref 67, .int (iN (ze)), .ref 67]) (kr1 := (78, 76)) (h1 := am_wr zg 67 ze.toNat (iN (zTs G T ze (zTv G T) (za : Int).toNat))) rfl ?_
          refine wp_iald (f := (am_wr zg 67 ze.toNat (iN (zTs G T ze (zTv G T) (za : Int).toNat))).1 67) (z := ze) (j := ze.toNat) (n := 17) (v := iN (zTs G T ze (zTv G T) za.toNat)) rfl rfl (by omega) (by omega) (by decide) (am_wr_at) ?_
          refine wp_run (k := 3) (pc1 := 74) (l1 := [(0, .ref 55), (1, .int (iN (ze))), (2, .int (iN (za))), (3, .int (iN (zLc G T za (ze - 1) (ze - 1 + 1 - za).toNat)))]) (st1 := [.int (iN (za)), .ref 67, .int (iN (zTs G T ze (zTv G T) za.toNat)), .int (iN (ze)), .ref 67]) (kr1 := (78, 76)) (h1 := am_wr zg 67 ze.toNat (iN (zTs G T ze (zTv G T) (za : Int).toNat))) rfl ?_
          refine wp_iald (f := (am_wr zg 67 ze.toNat (iN (zTs G T ze (zTv G T) (za : Int).toNat))).1 67) (z := za) (j := za.toNat) (n := 17) (v := iN (zTv G T za)) rfl rfl (by omega) (by omega) (by decide) ((am_wr_no (by omega)).trans (q_w za (by omega) (by omega))) ?_
          refine wp_run (k := 2) (pc1 := 77) (l1 := [(0, .ref 55), (1, .int (iN (ze))), (2, .int (iN (za))), (3, .int (iN (zLc G T za (ze - 1) (ze - 1 + 1 - za).toNat)))]) (st1 := [.int (iN ((zTv G T za) + (zLc G T za (ze - 1) (ze - 1 + 1 - za).toNat))), .int (iN (zTs G T ze (zTv G T) za.toNat)), .int (iN (ze)), .ref 67]) (kr1 := (78, 76)) (h1 := am_wr zg 67 ze.toNat (iN (zTs G T ze (zTv G T) (za : Int).toNat))) (Eq.trans (b := (some (77, [(0, .ref 55), (1, .int (iN (ze))), (2, .int (iN (za))), (3, .int (iN (zLc G T za (ze - 1) (ze - 1 + 1 - za).toNat)))], [.int ((iN (zTv G T za)) + (iN (zLc G T za (ze - 1) (ze - 1 + 1 - za).toNat))), .int (iN (zTs G T ze (zTv G T) za.toNat)), .int (iN (ze)), .ref 67], (78, 76), am_wr zg 67 ze.toNat (iN (zTs G T ze (zTv G T) (za : Int).toNat))) : Option am_C)) rfl (by simp only [Int32.ofInt_add, Int32.ofInt_sub, Int32.ofInt_mul, Int32.ofInt_neg])) ?_
          refine wp_now (rest := [.int (if iN ((zTv G T za) + (zLc G T za (ze - 1) (ze - 1 + 1 - za).toNat)) < iN (zTs G T ze (zTv G T) za.toNat) then iN ((zTv G T za) + (zLc G T za (ze - 1) (ze - 1 + 1 - za).toNat)) else iN (zTs G T ze (zTv G T) za.toNat)), .int (iN (ze)), .ref 67]) rfl ?_
          rw [show (if iN ((zTv G T za) + (zLc G T za (ze - 1) (ze - 1 + 1 - za).toNat)) < iN (zTs G T ze (zTv G T) za.toNat) then iN ((zTv G T za) + (zLc G T za (ze - 1) (ze - 1 + 1 - za).toNat)) else iN (zTs G T ze (zTv G T) za.toNat)) = iN (min (zTs G T ze (zTv G T) za.toNat) ((zTv G T za) + (zLc G T za (ze - 1) (ze - 1 + 1 - za).toNat))) from iN_min (by omega) (by omega)]
          refine wp_iast (z := ze) (j := ze.toNat) (n := 17) rfl (by decide) (by decide) rfl rfl (by omega) (by omega) (by decide) ?_
          refine wp_run (k := 2) (pc1 := 27) (l1 := [(0, .ref 55), (1, .int (iN (ze))), (2, .int (iN ((za) + 1))), (3, .int (iN (zLc G T za (ze - 1) (ze - 1 + 1 - za).toNat)))]) (st1 := []) (kr1 := (78, 76)) (h1 := am_wr (am_wr zg 67 ze.toNat (iN (zTs G T ze (zTv G T) (za : Int).toNat))) 67 (ze.toNat) (iN (min (zTs G T ze (zTv G T) za.toNat) ((zTv G T za) + (zLc G T za (ze - 1) (ze - 1 + 1 - za).toNat))))) (Eq.trans (b := (some (27, [(0, .ref 55), (1, .int (iN (ze))), (2, .int ((iN (za)) + iN (1))), (3, .int (iN (zLc G T za (ze - 1) (ze - 1 + 1 - za).toNat)))], [], (78, 76), am_wr (am_wr zg 67 ze.toNat (iN (zTs G T ze (zTv G T) (za : Int).toNat))) 67 (ze.toNat) (iN (min (zTs G T ze (zTv G T) za.toNat) ((zTv G T za) + (zLc G T za (ze - 1) (ze - 1 + 1 - za).toNat))))) : Option am_C)) rfl (by simp only [Int32.ofInt_add, Int32.ofInt_sub, Int32.ofInt_mul, Int32.ofInt_neg])) ?_
          refine wp_drop [3] (l := [(0, .ref 55), (1, .int (iN (ze))), (2, .int (iN ((za) + 1)))]) rfl rfl ?_
          rw [am_wr_wr]
          rw [show min (zTs G T ze (zTv G T) za.toNat) ((zTv G T za) + (zLc G T za (ze - 1) (ze - 1 + 1 - za).toNat)) = zTs G T ze (zTv G T) (za + 1).toNat from by rw [zTs_s G T ze _ za (by omega), if_pos ⟨by omega, by omega⟩]]
          exact z_ih (za + 1) (by omega) (by omega)
set_option maxRecDepth 20000 in
set_option maxHeartbeats 4000000 in
theorem jl_mfwE (zd : Nat) (q_d : 5 ≤ zd) {zh : am_H} {N : Int} {G : Int → Int → Int} {S T : Int} (q_nm : zMm (zh.1 55) (zh.1 56) N G S T) (q_g : zGk N G S T) {zQ : Option Value → am_H → Prop} (zk : ∀ zg : am_H, am_fr [67] zh zg → (∀ x : Int, 0 ≤ x → x ≤ N → zg.1 67 x.toNat = iN (zTv G T x)) → zQ none zg) : ∀ (z_n : Nat) (zg : am_H) (ze : Int) (q_f : am_fr [67] zh zg) (q_e : 1 ≤ ze ∧ ze ≤ N + 1) (q_w : ∀ x : Int, 0 ≤ x → x < ze → zg.1 67 x.toNat = iN (zTv G T x)), N + 1 - ze < (z_n : Int) → am_wp zd am_m_Model_forwards 9 [(0, .ref 55), (1, .int (iN (ze)))] [] (78, 76) zg (78, 76) zQ := by
  obtain ⟨zd, rfl⟩ : ∃ y_e, zd = y_e + 5 := ⟨zd - 5, by omega⟩
  intro z_n
  induction z_n with
  | zero => intro zg ze q_f q_e q_w q_m; omega
  | succ z_n z_ih =>
    intro zg ze q_f q_e q_w q_m
    have q_N := q_g.1
    refine wp_run (k := 3) (pc1 := 14) (l1 := [(0, .ref 55), (1, .int (iN (ze)))]) (st1 := [.int (iN (N)), .int (iN (ze))]) (kr1 := (78, 76)) (h1 := zg) (Eq.trans (b := (some (14, [(0, .ref 55), (1, .int (iN (ze)))], [.int (zg.1 55 0), .int (iN (ze))], (78, 76), zg) : Option am_C)) rfl (by simp only [(show (zg).1 55 0 = iN N from (congrFun (q_f.2 55 (by decide)) 0).trans q_nm.1), Int32.ofInt_add, Int32.ofInt_sub, Int32.ofInt_mul, Int32.ofInt_neg])) ?_
    refine wp_gt (a := ze) (b := N) rfl (by omega) (by omega) (fun b_14 => ?_) (fun b_14 => ?_)
    · refine wp_ret (rv := none) rfl ?_
      exact zk zg q_f (fun x y1 y2 => q_w x y1 (by omega))
    · refine wp_run (k := 4) (pc1 := 24) (l1 := [(0, .ref 55), (1, .int (iN (ze)))]) (st1 := [.int (iN (1000000000)), .int (iN (ze)), .ref 67]) (kr1 := (78, 76)) (h1 := zg) rfl ?_
      refine wp_iast (z := ze) (j := ze.toNat) (n := 17) rfl (by decide) (by decide) rfl rfl (by omega) (by omega) (by decide) ?_
      refine wp_run (k := 2) (pc1 := 27) (l1 := [(0, .ref 55), (1, .int (iN (ze))), (2, .int (iN (0)))]) (st1 := []) (kr1 := (78, 76)) (h1 := am_wr zg 67 (ze.toNat) (iN (1000000000))) rfl ?_
      refine Eq.mpr (congrArg (fun y_h => am_wp _ _ _ _ _ _ y_h _ _) (show am_wr zg 67 (ze.toNat) (iN (1000000000)) = am_wr zg 67 ze.toNat (iN (zTs G T ze (zTv G T) (0 : Int).toNat)) from rfl)) ?_
      refine jl_mfwA (zh := zh) _ (by omega) q_nm q_g (by omega) q_f q_w ?_ 20 0 (by omega) (by omega)
      refine wp_run (k := 2) (pc1 := 9) (l1 := [(0, .ref 55), (1, .int (iN ((ze) + 1))), (2, .int (iN (ze)))]) (st1 := []) (kr1 := (78, 76)) (h1 := am_wr zg 67 ze.toNat (iN (zTs G T ze (zTv G T) (ze : Int).toNat))) (Eq.trans (b := (some (9, [(0, .ref 55), (1, .int ((iN (ze)) + iN (1))), (2, .int (iN (ze)))], [], (78, 76), am_wr zg 67 ze.toNat (iN (zTs G T ze (zTv G T) (ze : Int).toNat))) : Option am_C)) rfl (by simp only [Int32.ofInt_add, Int32.ofInt_sub, Int32.ofInt_mul, Int32.ofInt_neg])) ?_
      refine wp_drop [2] (l := [(0, .ref 55), (1, .int (iN ((ze) + 1)))]) rfl rfl ?_
      refine z_ih _ (ze + 1) (am_fr_w q_f (by decide) _ _) (by omega) (fun x y1 y2 => ?_) (by omega)
      by_cases y3 : x = ze
      · rw [y3, am_wr_at, zTv_s G T ze (by omega)]
      · rw [am_wr_no (by omega)]; exact q_w x y1 (by omega)
set_option maxRecDepth 20000 in
set_option maxHeartbeats 4000000 in
theorem jm_forwards (zd : Nat) (q_d : 5 ≤ zd) {zh : am_H} {N : Int} {G : Int → Int → Int} {S T : Int} (q_nm : zMm (zh.1 55) (zh.1 56) N G S T) (q_g : zGk N G S T) : am_wp zd am_m_Model_forwards 0 [(0, .ref 55)] [] (78, 76) zh (78, 76) (fun rv h' => rv = none ∧ am_fr [67] zh h' ∧ ∀ x : Int, 0 ≤ x → x ≤ N → h'.1 67 x.toNat = iN (zTv G T x)) := by
  obtain ⟨zd, rfl⟩ : ∃ y_e, zd = y_e + 5 := ⟨zd - 5, by omega⟩
  have q_N := q_g.1
  refine wp_run (k := 4) (pc1 := 6) (l1 := [(0, .ref 55)]) (st1 := [.int (iN (0)), .int (iN (0)), .ref 67]) (kr1 := (78, 76)) (h1 := zh) rfl ?_
  refine wp_iast (z := 0) (j := 0) (n := 17) rfl (by decide) (by decide) rfl rfl (by omega) (by omega) (by decide) ?_
  refine wp_run (k := 2) (pc1 := 9) (l1 := [(0, .ref 55), (1, .int (iN (1)))]) (st1 := []) (kr1 := (78, 76)) (h1 := am_wr zh 67 (0) (iN (0))) rfl ?_
  exact jl_mfwE _ (by omega) q_nm q_g (fun zg y1 y2 => ⟨rfl, y1, y2⟩) 20 _ 1 (am_fr_w (am_fr_0 _ _) (by decide) _ _) (by omega) (fun x y1 y2 => by rw [show x.toNat = 0 by omega, am_wr_at, show x = 0 by omega, zTv_0]) (by omega)
set_option maxRecDepth 20000 in
set_option maxHeartbeats 4000000 in
theorem jl_fwdOf (zd : Nat) (q_d : 2 ≤ zd) {zh : am_H} {N : Int} {G : Int → Int → Int} {S T : Int} {zt : Int} (q_nm : zMm (zh.1 55) (zh.1 56) N G S T) (q_g : zGk N G S T) (q_t : 0 ≤ zt ∧ zt ≤ N) (q_w : ∀ x : Int, 0 ≤ x → x ≤ N → zh.1 67 x.toNat = iN (zTv G T x)) {zQ : Option Value → am_H → Prop} (zk : ∀ zv : Int, zv = (zWd G T zt).1 → zQ (some (.int (iN zv))) zh) : ∀ (z_n : Nat) (ze : Int) (zv : Int) (q_e : 0 ≤ ze ∧ ze ≤ zt + 1) (q_z : zv = zFo G T zt ze.toNat), zt + 1 - ze < (z_n : Int) → am_wp zd am_m_Model_forwardOf 5 [(0, .ref 55), (1, .int (iN (zt))), (2, .int (iN (zv))), (3, .int (iN (ze)))] [] (78, 76) zh (78, 76) zQ := by
  obtain ⟨zd, rfl⟩ : ∃ y_e, zd = y_e + 2 := ⟨zd - 2, by omega⟩
  intro z_n
  induction z_n with
  | zero => intro ze zv q_e q_z q_m; omega
  | succ z_n z_ih =>
    intro ze zv q_e q_z q_m
    have q_N := q_g.1
    refine wp_run (k := 2) (pc1 := 7) (l1 := [(0, .ref 55), (1, .int (iN (zt))), (2, .int (iN (zv))), (3, .int (iN (ze)))]) (st1 := [.int (iN (zt)), .int (iN (ze))]) (kr1 := (78, 76)) (h1 := zh) rfl ?_
    refine wp_gt (a := ze) (b := zt) rfl (by omega) (by omega) (fun b_7 => ?_) (fun b_7 => ?_)
    · refine wp_run (k := 1) (pc1 := 39) (l1 := [(0, .ref 55), (1, .int (iN (zt))), (2, .int (iN (zv))), (3, .int (iN (ze)))]) (st1 := [.int (iN (zv))]) (kr1 := (78, 76)) (h1 := zh) rfl ?_
      refine wp_ret (rv := some (.int (iN (zv)))) rfl ?_
      refine zk _ ?_
      rw [q_z, show ze = zt + 1 by omega, zFo_e q_g q_t]
    · have y_f := zFo_rg q_g (T := T) (zt := zt) (by omega) ze.toNat (by omega)
      have y_v := zTv_r q_g (T := T) (x := ze) (by omega) (by omega)
      have y_d := zD_rg q_g (a := ze) (b := zt - 1) (by omega) (by omega) (by omega)
      refine wp_run (k := 5) (pc1 := 15) (l1 := [(0, .ref 55), (1, .int (iN (zt))), (2, .int (iN (zv))), (3, .int (iN (ze)))]) (st1 := [.int (iN ((zt) - (1))), .int (iN (ze)), .ref 55]) (kr1 := (78, 76)) (h1 := zh) (Eq.trans (b := (some (15, [(0, .ref 55), (1, .int (iN (zt))), (2, .int (iN (zv))), (3, .int (iN (ze)))], [.int ((iN (zt)) - (iN (1))), .int (iN (ze)), .ref 55], (78, 76), zh) : Option am_C)) rfl (by simp only [Int32.ofInt_add, Int32.ofInt_sub, Int32.ofInt_mul, Int32.ofInt_neg])) ?_
      refine wp_call (md1 := am_m_Model_demand) (As := [.ref 55, .int (iN (ze)), .int (iN ((zt) - (1)))]) (rest := []) (kr1 := (78, 76)) rfl (jm_demand _ (by omega) q_nm q_g (za := ze) (zb := (zt) - (1)) (by omega)) ?_
      rintro _ _ ⟨rfl, rfl⟩
      refine wp_ne0 (a := zD G (ze) ((zt) - (1))) rfl (by omega) (fun b_18 => ?_) (fun b_18 => ?_)
      · refine wp_run (k := 2) (pc1 := 5) (l1 := [(0, .ref 55), (1, .int (iN (zt))), (2, .int (iN (zv))), (3, .int (iN ((ze) + 1)))]) (st1 := []) (kr1 := (78, 76)) (h1 := zh) (Eq.trans (b := (some (5, [(0, .ref 55), (1, .int (iN (zt))), (2, .int (iN (zv))), (3, .int ((iN (ze)) + iN (1)))], [], (78, 76), zh) : Option am_C)) rfl (by simp only [Int32.ofInt_add, Int32.ofInt_sub, Int32.ofInt_mul, Int32.ofInt_neg])) ?_
        refine z_ih (ze + 1) (zv) (by omega) ?_ (by omega)
        rw [zFo_s G T zt ze (by omega), if_neg (by omega), q_z]
      · refine wp_run (k := 4) (pc1 := 27) (l1 := [(0, .ref 55), (1, .int (iN (zt))), (2, .int (iN (zv))), (3, .int (iN (ze)))]) (st1 := [.int (iN (ze)), .ref 67, .int (iN (zv))]) (kr1 := (78, 76)) (h1 := zh) rfl ?_
        refine wp_iald (f := zh.1 67) (z := ze) (j := (ze).toNat) (n := 17) (v := iN (zTv G T (ze))) rfl rfl (by omega) (by omega) (by decide) (q_w (ze) (by omega) (by omega)) ?_
        refine wp_now (rest := [.int (if iN (zTv G T (ze)) < iN (zv) then iN (zTv G T (ze)) else iN (zv))]) rfl ?_
        rw [show (if iN (zTv G T (ze)) < iN (zv) then iN (zTv G T (ze)) else iN (zv)) = iN (min (zv) (zTv G T (ze))) from iN_min (by omega) (by omega)]
        refine wp_run (k := 3) (pc1 := 5) (l1 := [(0, .ref 55), (1, .int (iN (zt))), (2, .int (iN (min (zv) (zTv G T (ze))))), (3, .int (iN ((ze) + 1)))]) (st1 := []) (kr1 := (78, 76)) (h1 := zh) (Eq.trans (b := (some (5, [(0, .ref 55), (1, .int (iN (zt))), (2, .int (iN (min (zv) (zTv G T (ze))))), (3, .int ((iN (ze)) + iN (1)))], [], (78, 76), zh) : Option am_C)) rfl (by simp only [Int32.ofInt_add, Int32.ofInt_sub, Int32.ofInt_mul, Int32.ofInt_neg])) ?_
        refine z_ih (ze + 1) (min (zv) (zTv G T (ze))) (by omega) ?_ (by omega)
        rw [zFo_s G T zt ze (by omega), if_pos (by omega), q_z]
set_option maxRecDepth 20000 in
set_option maxHeartbeats 4000000 in
theorem jm_forwardOf (zd : Nat) (q_d : 2 ≤ zd) {zh : am_H} {N : Int} {G : Int → Int → Int} {S T : Int} {zt : Int} (q_nm : zMm (zh.1 55) (zh.1 56) N G S T) (q_g : zGk N G S T) (q_t : 0 ≤ zt ∧ zt ≤ N) (q_w : ∀ x : Int, 0 ≤ x → x ≤ N → zh.1 67 x.toNat = iN (zTv G T x)) : am_wp zd am_m_Model_forwardOf 0 [(0, .ref 55), (1, .int (iN (zt)))] [] (78, 76) zh (78, 76) (fun rv h' => rv = some (.int (iN ((zWd G T zt).1))) ∧ zh = h') := by
  obtain ⟨zd, rfl⟩ : ∃ y_e, zd = y_e + 2 := ⟨zd - 2, by omega⟩
  have q_N := q_g.1
  refine wp_run (k := 4) (pc1 := 5) (l1 := [(0, .ref 55), (1, .int (iN (zt))), (2, .int (iN (1000000000))), (3, .int (iN (0)))]) (st1 := []) (kr1 := (78, 76)) (h1 := zh) rfl ?_
  exact jl_fwdOf _ (by omega) q_nm q_g q_t q_w (fun zv q_v => ⟨by rw [q_v], rfl⟩) 20 0 1000000000 (by omega) rfl (by omega)
set_option maxRecDepth 20000 in
set_option maxHeartbeats 4000000 in
theorem jl_lastA (zd : Nat) (q_d : 5 ≤ zd) {zh : am_H} {N : Int} {G : Int → Int → Int} {S T : Int} {zt : Int} {zv ze zl0 : Int} (q_nm : zMm (zh.1 55) (zh.1 56) N G S T) (q_g : zGk N G S T) (q_t : 0 ≤ zt ∧ zt ≤ N) (q_w : ∀ x : Int, 0 ≤ x → x ≤ N → zh.1 67 x.toNat = iN (zTv G T x)) (q_e : 1 ≤ ze ∧ ze ≤ zt) (q_v : 0 ≤ zv ∧ zv ≤ 6000000) (q_l : -2 ≤ zl0 ∧ zl0 ≤ 16) {zQ : Option Value → am_H → Prop} (zk : am_wp zd am_m_Model_lastOf 112 [(0, .ref 55), (1, .int (iN (zt))), (2, .int (iN (zv))), (3, .int (iN (zLi G T zv ze zl0 ze.toNat))), (4, .int (iN (ze))), (5, .int (iN (ze)))] [] (78, 76) zh (78, 76) zQ) : ∀ (z_n : Nat) (za : Int) (zl : Int) (q_a : 0 ≤ za ∧ za ≤ ze) (q_z : zl = zLi G T zv ze zl0 za.toNat), ze - za < (z_n : Int) → am_wp zd am_m_Model_lastOf 47 [(0, .ref 55), (1, .int (iN (zt))), (2, .int (iN (zv))), (3, .int (iN (zl))), (4, .int (iN (ze))), (5, .int (iN (za)))] [] (78, 76) zh (78, 76) zQ := by
  obtain ⟨zd, rfl⟩ : ∃ y_e, zd = y_e + 5 := ⟨zd - 5, by omega⟩
  intro z_n
  induction z_n with
  | zero => intro za zl q_a q_z q_m; omega
  | succ z_n z_ih =>
    intro za zl q_a q_z q_m
    have q_N := q_g.1
    refine wp_run (k := 2) (pc1 := 51) (l1 := [(0, .ref 55), (1, .int (iN (zt))), (2, .int (iN (zv))), (3, .int (iN (zl))), (4, .int (iN (ze))), (5, .int (iN (za)))]) (st1 := [.int (iN (ze)), .int (iN (za))]) (kr1 := (78, 76)) (h1 := zh) rfl ?_
    refine wp_ge (a := za) (b := ze) rfl (by omega) (by omega) (fun b_51 => ?_) (fun b_51 => ?_)
    · rw [show za = ze by omega] at q_z ⊢
      rw [q_z]
      exact zk
    · refine wp_run (k := 5) (pc1 := 61) (l1 := [(0, .ref 55), (1, .int (iN (zt))), (2, .int (iN (zv))), (3, .int (iN (zl))), (4, .int (iN (ze))), (5, .int (iN (za)))]) (st1 := [.int (iN ((ze) - (1))), .int (iN (za)), .ref 55]) (kr1 := (78, 76)) (h1 := zh) (Eq.trans (b := (some (61, [(0, .ref 55), (1, .int (iN (zt))), (2, .int (iN (zv))), (3, .int (iN (zl))), (4, .int (iN (ze))), (5, .int (iN (za)))], [.int ((iN (ze)) - (iN (1))), .int (iN (za)), .ref 55], (78, 76), zh) : Option am_C)) rfl (by simp only [Int32.ofInt_add, Int32.ofInt_sub, Int32.ofInt_mul, Int32.ofInt_neg])) ?_
      refine wp_call (md1 := am_m_Model_leastLot) (As := [.ref 55, .int (iN (za)), .int (iN ((ze) - (1)))]) (rest := []) (kr1 := (78, 76)) rfl (jm_leastLot _ (by omega) q_nm q_g (za := za) (zb := (ze) - (1)) (by omega)) ?_
      rintro _ _ ⟨rfl, rfl⟩
      rw [show zLc G T (za) ((ze) - (1)) ((ze) - (1) + 1 - za).toNat = zLc G T za (ze - 1) (ze - 1 + 1 - za).toNat from rfl]
      refine wp_run (k := 3) (pc1 := 70) (l1 := [(0, .ref 55), (1, .int (iN (zt))), (2, .int (iN (zv))), (3, .int (iN (zl))), (4, .int (iN (ze))), (5, .int (iN (za))), (6, .int (iN (zLc G T za (ze - 1) (ze - 1 + 1 - za).toNat)))]) (st1 := [.int (iN (1000000000)), .int (iN (zLc G T za (ze - 1) (ze - 1 + 1 - za).toNat))]) (kr1 := (78, 76)) (h1 := zh) rfl ?_
      have y_c := zLc_rg (T := T) q_g (a := za) (b := ze - 1) (by omega) (by omega) (ze - 1 + 1 - za).toNat (by omega)
      have y_v := zTv_r q_g (T := T) (x := za) (by omega) (by omega)
      have y_l := zLi_b (G := G) (T := T) (v := zv) (e := ze) (l := zl0) za.toNat
      refine wp_ge (a := zLc G T za (ze - 1) (ze - 1 + 1 - za).toNat) (b := 1000000000) rfl (by omega) (by omega) (fun b_70 => ?_) (fun b_70 => ?_)
      · refine wp_run (k := 2) (pc1 := 47) (l1 := [(0, .ref 55), (1, .int (iN (zt))), (2, .int (iN (zv))), (3, .int (iN (zl))), (4, .int (iN (ze))), (5, .int (iN ((za) + 1))), (6, .int (iN (zLc G T za (ze - 1) (ze - 1 + 1 - za).toNat)))]) (st1 := []) (kr1 := (78, 76)) (h1 := zh) (Eq.trans (b := (some (47, [(0, .ref 55), (1, .int (iN (zt))), (2, .int (iN (zv))), (3, .int (iN (zl))), (4, .int (iN (ze))), (5, .int ((iN (za)) + iN (1))), (6, .int (iN (zLc G T za (ze - 1) (ze - 1 + 1 - za).toNat)))], [], (78, 76), zh) : Option am_C)) rfl (by simp only [Int32.ofInt_add, Int32.ofInt_sub, Int32.ofInt_mul, Int32.ofInt_neg])) ?_
        refine wp_drop [6] (l := [(0, .ref 55), (1, .int (iN (zt))), (2, .int (iN (zv))), (3, .int (iN (zl))), (4, .int (iN (ze))), (5, .int (iN ((za) + 1)))]) rfl rfl ?_
        refine z_ih (za + 1) (zl) (by omega) ?_ (by omega)
        rw [zLi_s G T zv ze zl0 za (by omega), if_neg (fun y => by have y1 := y.1; have y2 := y.2.1; have y3 := y.2.2; omega), q_z]
      · refine wp_run (k := 3) (pc1 := 79) (l1 := [(0, .ref 55), (1, .int (iN (zt))), (2, .int (iN (zv))), (3, .int (iN (zl))), (4, .int (iN (ze))), (5, .int (iN (za))), (6, .int (iN (zLc G T za (ze - 1) (ze - 1 + 1 - za).toNat)))]) (st1 := [.int (iN (za)), .ref 67]) (kr1 := (78, 76)) (h1 := zh) rfl ?_
        refine wp_iald (f := zh.1 67) (z := za) (j := (za).toNat) (n := 17) (v := iN (zTv G T (za))) rfl rfl (by omega) (by omega) (by decide) (q_w (za) (by omega) (by omega)) ?_
        refine wp_run (k := 1) (pc1 := 82) (l1 := [(0, .ref 55), (1, .int (iN (zt))), (2, .int (iN (zv))), (3, .int (iN (zl))), (4, .int (iN (ze))), (5, .int (iN (za))), (6, .int (iN (zLc G T za (ze - 1) (ze - 1 + 1 - za).toNat)))]) (st1 := [.int (iN (1000000000)), .int (iN (zTv G T (za)))]) (kr1 := (78, 76)) (h1 := zh) rfl ?_
        refine wp_ge (a := zTv G T (za)) (b := 1000000000) rfl (by omega) (by omega) (fun b_82 => ?_) (fun b_82 => ?_)
        · refine wp_run (k := 2) (pc1 := 47) (l1 := [(0, .ref 55), (1, .int (iN (zt))), (2, .int (iN (zv))), (3, .int (iN (zl))), (4, .int (iN (ze))), (5, .int (iN ((za) + 1))), (6, .int (iN (zLc G T za (ze - 1) (ze - 1 + 1 - za).toNat)))]) (st1 := []) (kr1 := (78, 76)) (h1 := zh) (Eq.trans (b := (some (47, [(0, .ref 55), (1, .int (iN (zt))), (2, .int (iN (zv))), (3, .int (iN (zl))), (4, .int (iN (ze))), (5, .int ((iN (za)) + iN (1))), (6, .int (iN (zLc G T za (ze - 1) (ze - 1 + 1 - za).toNat)))], [], (78, 76), zh) : Option am_C)) rfl (by simp only [Int32.ofInt_add, Int32.ofInt_sub, Int32.ofInt_mul, Int32.ofInt_neg])) ?_
          refine wp_drop [6] (l := [(0, .ref 55), (1, .int (iN (zt))), (2, .int (iN (zv))), (3, .int (iN (zl))), (4, .int (iN (ze))), (5, .int (iN ((za) + 1)))]) rfl rfl ?_
          refine z_ih (za + 1) (zl) (by omega) ?_ (by omega)
          rw [zLi_s G T zv ze zl0 za (by omega), if_neg (fun y => by have y1 := y.1; have y2 := y.2.1; have y3 := y.2.2; omega), q_z]
        · refine wp_run (k := 3) (pc1 := 91) (l1 := [(0, .ref 55), (1, .int (iN (zt))), (2, .int (iN (zv))), (3, .int (iN (zl))), (4, .int (iN (ze))), (5, .int (iN (za))), (6, .int (iN (zLc G T za (ze - 1) (ze - 1 + 1 - za).toNat)))]) (st1 := [.int (iN (za)), .ref 67]) (kr1 := (78, 76)) (h1 := zh) rfl ?_
          refine wp_iald (f := zh.1 67) (z := za) (j := (za).toNat) (n := 17) (v := iN (zTv G T (za))) rfl rfl (by omega) (by omega) (by decide) (q_w (za) (by omega) (by omega)) ?_
          refine wp_run (k := 3) (pc1 := 96) (l1 := [(0, .ref 55), (1, .int (iN (zt))), (2, .int (iN (zv))), (3, .int (iN (zl))), (4, .int (iN (ze))), (5, .int (iN (za))), (6, .int (iN (zLc G T za (ze - 1) (ze - 1 + 1 - za).toNat)))]) (st1 := [.int (iN (zv)), .int (iN ((zTv G T (za)) + (zLc G T za (ze - 1) (ze - 1 + 1 - za).toNat)))]) (kr1 := (78, 76)) (h1 := zh) (Eq.trans (b := (some (96, [(0, .ref 55), (1, .int (iN (zt))), (2, .int (iN (zv))), (3, .int (iN (zl))), (4, .int (iN (ze))), (5, .int (iN (za))), (6, .int (iN (zLc G T za (ze - 1) (ze - 1 + 1 - za).toNat)))], [.int (iN (zv)), .int ((iN (zTv G T (za))) + (iN (zLc G T za (ze - 1) (ze - 1 + 1 - za).toNat)))], (78, 76), zh) : Option am_C)) rfl (by simp only [Int32.ofInt_add, Int32.ofInt_sub, Int32.ofInt_mul, Int32.ofInt_neg])) ?_
          refine wp_ne (a := (zTv G T (za)) + (zLc G T za (ze - 1) (ze - 1 + 1 - za).toNat)) (b := zv) rfl (by omega) (by omega) (fun b_96 => ?_) (fun b_96 => ?_)
          · refine wp_run (k := 2) (pc1 := 47) (l1 := [(0, .ref 55), (1, .int (iN (zt))), (2, .int (iN (zv))), (3, .int (iN (zl))), (4, .int (iN (ze))), (5, .int (iN ((za) + 1))), (6, .int (iN (zLc G T za (ze - 1) (ze - 1 + 1 - za).toNat)))]) (st1 := []) (kr1 := (78, 76)) (h1 := zh) (Eq.trans (b := (some (47, [(0, .ref 55), (1, .int (iN (zt))), (2, .int (iN (zv))), (3, .int (iN (zl))), (4, .int (iN (ze))), (5, .int ((iN (za)) + iN (1))), (6, .int (iN (zLc G T za (ze - 1) (ze - 1 + 1 - za).toNat)))], [], (78, 76), zh) : Option am_C)) rfl (by simp only [Int32.ofInt_add, Int32.ofInt_sub, Int32.ofInt_mul, Int32.ofInt_neg])) ?_
            refine wp_drop [6] (l := [(0, .ref 55), (1, .int (iN (zt))), (2, .int (iN (zv))), (3, .int (iN (zl))), (4, .int (iN (ze))), (5, .int (iN ((za) + 1)))]) rfl rfl ?_
            refine z_ih (za + 1) (zl) (by omega) ?_ (by omega)
            rw [zLi_s G T zv ze zl0 za (by omega), if_neg (fun y => by have y1 := y.1; have y2 := y.2.1; have y3 := y.2.2; omega), q_z]
          · refine wp_run (k := 2) (pc1 := 102) (l1 := [(0, .ref 55), (1, .int (iN (zt))), (2, .int (iN (zv))), (3, .int (iN (zl))), (4, .int (iN (ze))), (5, .int (iN (za))), (6, .int (iN (zLc G T za (ze - 1) (ze - 1 + 1 - za).toNat)))]) (st1 := [.int (iN (za)), .int (iN (zl))]) (kr1 := (78, 76)) (h1 := zh) rfl ?_
            refine wp_now (rest := [.int (if iN (zl) < iN (za) then iN (za) else iN (zl))]) rfl ?_
            rw [show (if iN (zl) < iN (za) then iN (za) else iN (zl)) = iN (max (zl) (za)) from iN_max (by omega) (by omega)]
            refine wp_run (k := 3) (pc1 := 47) (l1 := [(0, .ref 55), (1, .int (iN (zt))), (2, .int (iN (zv))), (3, .int (iN (max (zl) (za)))), (4, .int (iN (ze))), (5, .int (iN ((za) + 1))), (6, .int (iN (zLc G T za (ze - 1) (ze - 1 + 1 - za).toNat)))]) (st1 := []) (kr1 := (78, 76)) (h1 := zh) (Eq.trans (b := (some (47, [(0, .ref 55), (1, .int (iN (zt))), (2, .int (iN (zv))), (3, .int (iN (max (zl) (za)))), (4, .int (iN (ze))), (5, .int ((iN (za)) + iN (1))), (6, .int (iN (zLc G T za (ze - 1) (ze - 1 + 1 - za).toNat)))], [], (78, 76), zh) : Option am_C)) rfl (by simp only [Int32.ofInt_add, Int32.ofInt_sub, Int32.ofInt_mul, Int32.ofInt_neg])) ?_
            refine wp_drop [6] (l := [(0, .ref 55), (1, .int (iN (zt))), (2, .int (iN (zv))), (3, .int (iN (max (zl) (za)))), (4, .int (iN (ze))), (5, .int (iN ((za) + 1)))]) rfl rfl ?_
            refine z_ih (za + 1) (max (zl) (za)) (by omega) ?_ (by omega)
            rw [zLi_s G T zv ze zl0 za (by omega), if_pos ⟨by omega, by omega, by omega⟩, q_z]
set_option maxRecDepth 20000 in
set_option maxHeartbeats 4000000 in
theorem jl_lastE (zd : Nat) (q_d : 5 ≤ zd) {zh : am_H} {N : Int} {G : Int → Int → Int} {S T : Int} {zt : Int} {zv : Int} (q_nm : zMm (zh.1 55) (zh.1 56) N G S T) (q_g : zGk N G S T) (q_t : 0 ≤ zt ∧ zt ≤ N) (q_w : ∀ x : Int, 0 ≤ x → x ≤ N → zh.1 67 x.toNat = iN (zTv G T x)) (q_v : 0 ≤ zv ∧ zv ≤ 6000000) {zQ : Option Value → am_H → Prop} (zk : ∀ ze zl : Int, zl = zLo G T zt zv zt.toNat → am_wp zd am_m_Model_lastOf 118 [(0, .ref 55), (1, .int (iN (zt))), (2, .int (iN (zv))), (3, .int (iN (zl))), (4, .int (iN (ze)))] [] (78, 76) zh (78, 76) zQ) : ∀ (z_n : Nat) (ze : Int) (zl : Int) (q_e : 1 ≤ ze ∧ ze ≤ max zt 0 + 1) (q_z : zl = zLo G T zt zv (ze - 1).toNat), zt + 1 - ze < (z_n : Int) → am_wp zd am_m_Model_lastOf 12 [(0, .ref 55), (1, .int (iN (zt))), (2, .int (iN (zv))), (3, .int (iN (zl))), (4, .int (iN (ze)))] [] (78, 76) zh (78, 76) zQ := by
  obtain ⟨zd, rfl⟩ : ∃ y_e, zd = y_e + 5 := ⟨zd - 5, by omega⟩
  intro z_n
  induction z_n with
  | zero => intro ze zl q_e q_z q_m; omega
  | succ z_n z_ih =>
    intro ze zl q_e q_z q_m
    have q_N := q_g.1
    refine wp_run (k := 2) (pc1 := 15) (l1 := [(0, .ref 55), (1, .int (iN (zt))), (2, .int (iN (zv))), (3, .int (iN (zl))), (4, .int (iN (ze)))]) (st1 := [.int (iN (zt)), .int (iN (ze))]) (kr1 := (78, 76)) (h1 := zh) rfl ?_
    refine wp_gt (a := ze) (b := zt) rfl (by omega) (by omega) (fun b_15 => ?_) (fun b_15 => ?_)
    · refine zk ze zl ?_
      rw [q_z, show (ze - 1).toNat = zt.toNat by omega]
    · have y_d := zD_rg q_g (a := ze) (b := zt - 1) (by omega) (by omega) (by omega)
      have y_v := zTv_r q_g (T := T) (x := ze) (by omega) (by omega)
      have y_l := zLo_rg q_g (T := T) (zt := zt) (v := zv) (by omega) (ze - 1).toNat (by omega)
      refine wp_run (k := 5) (pc1 := 24) (l1 := [(0, .ref 55), (1, .int (iN (zt))), (2, .int (iN (zv))), (3, .int (iN (zl))), (4, .int (iN (ze)))]) (st1 := [.int (iN ((zt) - (1))), .int (iN (ze)), .ref 55]) (kr1 := (78, 76)) (h1 := zh) (Eq.trans (b := (some (24, [(0, .ref 55), (1, .int (iN (zt))), (2, .int (iN (zv))), (3, .int (iN (zl))), (4, .int (iN (ze)))], [.int ((iN (zt)) - (iN (1))), .int (iN (ze)), .ref 55], (78, 76), zh) : Option am_C)) rfl (by simp only [Int32.ofInt_add, Int32.ofInt_sub, Int32.ofInt_mul, Int32.ofInt_neg])) ?_
      refine wp_call (md1 := am_m_Model_demand) (As := [.ref 55, .int (iN (ze)), .int (iN ((zt) - (1)))]) (rest := []) (kr1 := (78, 76)) rfl (jm_demand _ (by omega) q_nm q_g (za := ze) (zb := (zt) - (1)) (by omega)) ?_
      rintro _ _ ⟨rfl, rfl⟩
      refine wp_gt0 (a := zD G (ze) ((zt) - (1))) rfl (by omega) (fun b_27 => ?_) (fun b_27 => ?_)
      · refine wp_run (k := 2) (pc1 := 12) (l1 := [(0, .ref 55), (1, .int (iN (zt))), (2, .int (iN (zv))), (3, .int (iN (zl))), (4, .int (iN ((ze) + 1)))]) (st1 := []) (kr1 := (78, 76)) (h1 := zh) (Eq.trans (b := (some (12, [(0, .ref 55), (1, .int (iN (zt))), (2, .int (iN (zv))), (3, .int (iN (zl))), (4, .int ((iN (ze)) + iN (1)))], [], (78, 76), zh) : Option am_C)) rfl (by simp only [Int32.ofInt_add, Int32.ofInt_sub, Int32.ofInt_mul, Int32.ofInt_neg])) ?_
        refine z_ih (ze + 1) (zl) (by omega) ?_ (by omega)
        rw [zLo_s G T zt zv ze (by omega), if_neg (fun y => by have y1 := y.1; have y2 := y.2; omega)]
        exact q_z
      · refine wp_run (k := 3) (pc1 := 36) (l1 := [(0, .ref 55), (1, .int (iN (zt))), (2, .int (iN (zv))), (3, .int (iN (zl))), (4, .int (iN (ze)))]) (st1 := [.int (iN (ze)), .ref 67]) (kr1 := (78, 76)) (h1 := zh) rfl ?_
        refine wp_iald (f := zh.1 67) (z := ze) (j := (ze).toNat) (n := 17) (v := iN (zTv G T (ze))) rfl rfl (by omega) (by omega) (by decide) (q_w (ze) (by omega) (by omega)) ?_
        refine wp_run (k := 1) (pc1 := 38) (l1 := [(0, .ref 55), (1, .int (iN (zt))), (2, .int (iN (zv))), (3, .int (iN (zl))), (4, .int (iN (ze)))]) (st1 := [.int (iN (zv)), .int (iN (zTv G T (ze)))]) (kr1 := (78, 76)) (h1 := zh) rfl ?_
        refine wp_eq (a := zTv G T (ze)) (b := zv) rfl (by omega) (by omega) (fun b_38 => ?_) (fun b_38 => ?_)
        · refine wp_run (k := 2) (pc1 := 47) (l1 := [(0, .ref 55), (1, .int (iN (zt))), (2, .int (iN (zv))), (3, .int (iN (zl))), (4, .int (iN (ze))), (5, .int (iN (0)))]) (st1 := []) (kr1 := (78, 76)) (h1 := zh) rfl ?_
          rw [q_z]
          refine jl_lastA (zl0 := zLo G T zt zv (ze - 1).toNat) _ (by omega) q_nm q_g q_t q_w (by omega) q_v (by omega) ?_ 20 0 (zLo G T zt zv (ze - 1).toNat) (by omega) rfl (by omega)
          refine wp_run (k := 2) (pc1 := 12) (l1 := [(0, .ref 55), (1, .int (iN (zt))), (2, .int (iN (zv))), (3, .int (iN (zLi G T zv ze (zLo G T zt zv (ze - 1).toNat) ze.toNat))), (4, .int (iN ((ze) + 1))), (5, .int (iN (ze)))]) (st1 := []) (kr1 := (78, 76)) (h1 := zh) (Eq.trans (b := (some (12, [(0, .ref 55), (1, .int (iN (zt))), (2, .int (iN (zv))), (3, .int (iN (zLi G T zv ze (zLo G T zt zv (ze - 1).toNat) ze.toNat))), (4, .int ((iN (ze)) + iN (1))), (5, .int (iN (ze)))], [], (78, 76), zh) : Option am_C)) rfl (by simp only [Int32.ofInt_add, Int32.ofInt_sub, Int32.ofInt_mul, Int32.ofInt_neg])) ?_
          refine wp_drop [5] (l := [(0, .ref 55), (1, .int (iN (zt))), (2, .int (iN (zv))), (3, .int (iN (zLi G T zv ze (zLo G T zt zv (ze - 1).toNat) ze.toNat))), (4, .int (iN ((ze) + 1)))]) rfl rfl ?_
          refine z_ih (ze + 1) (zLi G T zv ze (zLo G T zt zv (ze - 1).toNat) ze.toNat) (by omega) ?_ (by omega)
          rw [zLo_s G T zt zv ze (by omega), if_pos ⟨by omega, by omega⟩]
        · refine wp_run (k := 3) (pc1 := 12) (l1 := [(0, .ref 55), (1, .int (iN (zt))), (2, .int (iN (zv))), (3, .int (iN (zl))), (4, .int (iN ((ze) + 1)))]) (st1 := []) (kr1 := (78, 76)) (h1 := zh) (Eq.trans (b := (some (12, [(0, .ref 55), (1, .int (iN (zt))), (2, .int (iN (zv))), (3, .int (iN (zl))), (4, .int ((iN (ze)) + iN (1)))], [], (78, 76), zh) : Option am_C)) rfl (by simp only [Int32.ofInt_add, Int32.ofInt_sub, Int32.ofInt_mul, Int32.ofInt_neg])) ?_
          refine z_ih (ze + 1) (zl) (by omega) ?_ (by omega)
          rw [zLo_s G T zt zv ze (by omega), if_neg (fun y => by have y1 := y.1; have y2 := y.2; omega)]
          exact q_z
set_option maxRecDepth 20000 in
set_option maxHeartbeats 4000000 in
theorem jm_lastOf (zd : Nat) (q_d : 5 ≤ zd) {zh : am_H} {N : Int} {G : Int → Int → Int} {S T : Int} {zt : Int} (q_nm : zMm (zh.1 55) (zh.1 56) N G S T) (q_g : zGk N G S T) (q_t : 0 ≤ zt ∧ zt ≤ N) (q_w : ∀ x : Int, 0 ≤ x → x ≤ N → zh.1 67 x.toNat = iN (zTv G T x)) : am_wp zd am_m_Model_lastOf 0 [(0, .ref 55), (1, .int (iN (zt)))] [] (78, 76) zh (78, 76) (fun rv h' => rv = some (.int (iN (if 0 < zD G 0 (zt - 1) then (zWd G T zt).2 else -2))) ∧ zh = h') := by
  obtain ⟨zd, rfl⟩ : ∃ y_e, zd = y_e + 5 := ⟨zd - 5, by omega⟩
  have q_N := q_g.1
  refine wp_run (k := 2) (pc1 := 2) (l1 := [(0, .ref 55), (1, .int (iN (zt)))]) (st1 := [.int (iN (zt)), .ref 55]) (kr1 := (78, 76)) (h1 := zh) rfl ?_
  refine wp_call (md1 := am_m_Model_forwardOf) (As := [.ref 55, .int (iN (zt))]) (rest := []) (kr1 := (78, 76)) rfl (jm_forwardOf _ (by omega) q_nm q_g q_t q_w) ?_
  rintro _ _ ⟨rfl, rfl⟩
  refine wp_run (k := 5) (pc1 := 12) (l1 := [(0, .ref 55), (1, .int (iN (zt))), (2, .int (iN ((zWd G T zt).1))), (3, .int (iN (-2))), (4, .int (iN (1)))]) (st1 := []) (kr1 := (78, 76)) (h1 := zh) rfl ?_
  have y_w := zWd_r q_g (T := T) (x := zt) (by omega) (by omega)
  refine jl_lastE _ (by omega) q_nm q_g q_t q_w (zv := (zWd G T zt).1) (by omega) ?_ 20 1 (-2) (by omega) rfl (by omega)
  intro ze zl q_l
  have y_d := zD_rg q_g (a := 0) (b := zt - 1) (by omega) (by omega) (by omega)
  refine wp_run (k := 5) (pc1 := 123) (l1 := [(0, .ref 55), (1, .int (iN (zt))), (2, .int (iN ((zWd G T zt).1))), (3, .int (iN (zl))), (4, .int (iN (ze)))]) (st1 := [.int (iN ((zt) - (1))), .int (iN (0)), .ref 55]) (kr1 := (78, 76)) (h1 := zh) (Eq.trans (b := (some (123, [(0, .ref 55), (1, .int (iN (zt))), (2, .int (iN ((zWd G T zt).1))), (3, .int (iN (zl))), (4, .int (iN (ze)))], [.int ((iN (zt)) - (iN (1))), .int (iN (0)), .ref 55], (78, 76), zh) : Option am_C)) rfl (by simp only [Int32.ofInt_add, Int32.ofInt_sub, Int32.ofInt_mul, Int32.ofInt_neg])) ?_
  refine wp_call (md1 := am_m_Model_demand) (As := [.ref 55, .int (iN (0)), .int (iN ((zt) - (1)))]) (rest := []) (kr1 := (78, 76)) rfl (jm_demand _ (by omega) q_nm q_g (za := 0) (zb := (zt) - (1)) (by omega)) ?_
  rintro _ _ ⟨rfl, rfl⟩
  refine wp_ne0 (a := zD G (0) ((zt) - (1))) rfl (by omega) (fun b_126 => ?_) (fun b_126 => ?_)
  · refine wp_run (k := 1) (pc1 := 135) (l1 := [(0, .ref 55), (1, .int (iN (zt))), (2, .int (iN ((zWd G T zt).1))), (3, .int (iN (zl))), (4, .int (iN (ze)))]) (st1 := [.int (iN (zl))]) (kr1 := (78, 76)) (h1 := zh) rfl ?_
    refine wp_ret (rv := some (.int (iN (zl)))) rfl ?_
    exact ⟨by rw [show (if 0 < zD G 0 (zt - 1) then (zWd G T zt).2 else -2) = zl from (if_pos (by omega)).trans (by rw [q_l, (zWd_t q_g q_t.1 q_t.2).1 (by omega) |>.1, zLo_e q_g q_t (by omega)])], rfl⟩
  · refine wp_run (k := 2) (pc1 := 135) (l1 := [(0, .ref 55), (1, .int (iN (zt))), (2, .int (iN ((zWd G T zt).1))), (3, .int (iN (zl))), (4, .int (iN (ze)))]) (st1 := [.int (iN (-2))]) (kr1 := (78, 76)) (h1 := zh) rfl ?_
    refine wp_ret (rv := some (.int (iN (-2)))) rfl ?_
    exact ⟨by rw [show (if 0 < zD G 0 (zt - 1) then (zWd G T zt).2 else -2) = -2 from if_neg (by omega)], rfl⟩
