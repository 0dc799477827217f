/-! WAYS: the reference's, and that they are the class's -/
def zYi (G : Int → Int → Int) (T a b V v M s : Int) : Nat → Int
  | 0 => s
  | k + 1 => if zIsL G T a b (a + k) ∧ zCo G a b (a + k) + V = v then min 9999 (zYi G T a b V v M s k + M) else zYi G T a b V v M s k
theorem zYi_s (G : Int → Int → Int) (T a b V v M s m : Int) (q : a ≤ m) : zYi G T a b V v M s (m + 1 - a).toNat = if zIsL G T a b m ∧ zCo G a b m + V = v then min 9999 (zYi G T a b V v M s (m - a).toNat + M) else zYi G T a b V v M s (m - a).toNat := by
  rw [show (m + 1 - a).toNat = (m - a).toNat + 1 by omega]
  show (if zIsL G T a b (a + ((m - a).toNat : Int)) ∧ zCo G a b (a + ((m - a).toNat : Int)) + V = v then min 9999 (zYi G T a b V v M s (m - a).toNat + M) else zYi G T a b V v M s (m - a).toNat) = _
  rw [show a + ((m - a).toNat : Int) = m by omega]
theorem zYi_rg {G : Int → Int → Int} {T a b V v M s : Int} (q_M : 0 ≤ M) (q_s : 0 ≤ s ∧ s ≤ 9999) : ∀ k : Nat, 0 ≤ zYi G T a b V v M s k ∧ zYi G T a b V v M s k ≤ 9999 := by
  intro k
  induction k with
  | zero => exact q_s
  | succ k z_ih =>
    show 0 ≤ (if zIsL G T a b (a + k) ∧ zCo G a b (a + k) + V = v then min 9999 (zYi G T a b V v M s k + M) else zYi G T a b V v M s k) ∧ (if zIsL G T a b (a + k) ∧ zCo G a b (a + k) + V = v then min 9999 (zYi G T a b V v M s k + M) else zYi G T a b V v M s k) ≤ 9999
    split <;> omega
theorem zLw_0 {G : Int → Int → Int} {T a b : Int} (q : ∀ k : Nat, 0 ≤ zLw G T a b k) : True := trivial
/-- so many periods to make a lot in for a cost, saturated -/
theorem zYi_e {G : Int → Int → Int} {T a b V v M s : Int} (q_M : 0 ≤ M) (q_s : 0 ≤ s ∧ s ≤ 9999) : ∀ k : Nat, v ≤ zLc G T a b k + V → zYi G T a b V v M s k = if zLc G T a b k + V = v then min 9999 (s + zLw G T a b k * M) else s := by
  intro k
  induction k with
  | zero =>
    intro _
    show s = if (1000000000 : Int) + V = v then min 9999 (s + 0 * M) else s
    rw [Int.zero_mul]
    split <;> omega
  | succ k z_ih =>
    intro q
    have e1 : zLc G T a b (k + 1) = if zIsL G T a b (a + k) ∧ zCo G a b (a + k) < zLc G T a b k then zCo G a b (a + k) else zLc G T a b k := rfl
    have e2 : zLw G T a b (k + 1) = if zIsL G T a b (a + k) ∧ zCo G a b (a + k) < zLc G T a b k then 1 else if zIsL G T a b (a + k) ∧ zCo G a b (a + k) = zLc G T a b k then zLw G T a b k + 1 else zLw G T a b k := rfl
    have e3 : zYi G T a b V v M s (k + 1) = if zIsL G T a b (a + k) ∧ zCo G a b (a + k) + V = v then min 9999 (zYi G T a b V v M s k + M) else zYi G T a b V v M s k := rfl
    have y_w := zLw_rg G T a b k
    have y_wm := Int.mul_nonneg y_w.1 q_M
    by_cases y1 : zIsL G T a b (a + k)
    · by_cases y2 : zCo G a b (a + k) < zLc G T a b k
      · rw [e1, if_pos ⟨y1, y2⟩] at q
        rw [e1.trans (if_pos ⟨y1, y2⟩), e2.trans (if_pos ⟨y1, y2⟩)]
        have y3 := z_ih (by omega)
        rw [if_neg (by omega)] at y3
        by_cases y4 : zCo G a b (a + k) + V = v
        · rw [e3.trans (if_pos ⟨y1, y4⟩), if_pos y4, y3, Int.one_mul]
        · rw [e3.trans (if_neg (fun y => y4 y.2)), if_neg y4, y3]
      · rw [e1, if_neg (fun y => y2 y.2)] at q
        rw [e1.trans (if_neg (fun y => y2 y.2))]
        have y3 := z_ih q
        by_cases y5 : zCo G a b (a + k) = zLc G T a b k
        · rw [e2.trans ((if_neg (fun y => y2 y.2)).trans (if_pos ⟨y1, y5⟩)), Int.add_mul, Int.one_mul]
          by_cases y4 : zCo G a b (a + k) + V = v
          · rw [if_pos (by omega)] at y3
            rw [e3.trans (if_pos ⟨y1, y4⟩), if_pos (show zLc G T a b k + V = v by omega), y3]
            omega
          · rw [if_neg (by omega)] at y3
            rw [e3.trans (if_neg (fun y => y4 y.2)), if_neg (show ¬ zLc G T a b k + V = v by omega), y3]
        · rw [e2.trans ((if_neg (fun y => y2 y.2)).trans (if_neg (fun y => y5 y.2))), e3.trans (if_neg (fun y => by have := y.2; omega)), y3]
    · rw [e1, if_neg (fun y => y1 y.1)] at q
      rw [e1.trans (if_neg (fun y => y1 y.1)), e2.trans ((if_neg (fun y => y1 y.1)).trans (if_neg (fun y => y1 y.1))), e3.trans (if_neg (fun y => y1 y.1)), z_ih q]
def zYo (G : Int → Int → Int) (T v : Int) (V W : Int → Int) (a : Int) : Nat → Int
  | 0 => 0
  | k + 1 => zYi G T a (a + k) (V (a + k + 1)) v (W (a + k + 1)) (zYo G T v V W a k) (k + 1)
theorem zYo_s (G : Int → Int → Int) (T v : Int) (V W : Int → Int) (a b : Int) (q : a ≤ b) : zYo G T v V W a (b + 1 - a).toNat = zYi G T a b (V (b + 1)) v (W (b + 1)) (zYo G T v V W a (b - a).toNat) (b + 1 - a).toNat := by
  rw [show (b + 1 - a).toNat = (b - a).toNat + 1 by omega]
  show zYi G T a (a + ((b - a).toNat : Int)) (V (a + ((b - a).toNat : Int) + 1)) v (W (a + ((b - a).toNat : Int) + 1)) _ _ = _
  rw [show a + ((b - a).toNat : Int) = b by omega]
theorem zYo_rg {G : Int → Int → Int} {T v : Int} {V W : Int → Int} {a n : Int} (q_W : ∀ y : Int, a < y → y ≤ n → 0 ≤ W y) : ∀ k : Nat, a + k ≤ n → 0 ≤ zYo G T v V W a k ∧ zYo G T v V W a k ≤ 9999 := by
  intro k
  induction k with
  | zero => intro _; exact ⟨Int.le_refl _, by show (0 : Int) ≤ 9999; decide⟩
  | succ k z_ih =>
    intro q
    exact zYi_rg (q_W (a + k + 1) (by omega) (by omega)) (z_ih (by omega)) (k + 1)
theorem zBs_dn {G : Int → Int → Int} {T n : Int} {V W : Int → Int} {a : Int} (k : Nat) : (zBs G T n V W a (k + 1)).1 ≤ (zBs G T n V W a k).1 ∧ (zLc G T a (a + k) (k + 1) < 1000000000 → (zBs G T n V W a (k + 1)).1 ≤ zLc G T a (a + k) (k + 1) + V (a + k + 1)) := by
  have e2 : zBs G T n V W a (k + 1) = zBt (zBs G T n V W a k) (a + k) (zLc G T a (a + k) (k + 1)) (V (a + k + 1)) (zLw G T a (a + k) (k + 1)) (W (a + k + 1)) := rfl
  rw [e2]
  unfold zBt
  by_cases y1 : 1000000000 ≤ zLc G T a (a + k) (k + 1)
  · rw [if_pos y1]; omega
  · rw [if_neg y1]
    by_cases y2 : zLc G T a (a + k) (k + 1) + V (a + k + 1) < (zBs G T n V W a k).1
    · rw [if_pos y2]; dsimp only; omega
    · rw [if_neg y2]
      by_cases y3 : zLc G T a (a + k) (k + 1) + V (a + k + 1) = (zBs G T n V W a k).1
      · rw [if_pos y3]; dsimp only; omega
      · rw [if_neg y3]; omega
theorem zBs_dj {G : Int → Int → Int} {T n : Int} {V W : Int → Int} {a : Int} (k : Nat) : ∀ j : Nat, (zBs G T n V W a (k + j)).1 ≤ (zBs G T n V W a k).1 := by
  intro j
  induction j with
  | zero => exact Int.le_refl _
  | succ j z_ih =>
    have y := (zBs_dn (G := G) (T := T) (n := n) (V := V) (W := W) (a := a) (k + j)).1
    show (zBs G T n V W a (k + j + 1)).1 ≤ _
    omega
theorem zYo_e {G : Int → Int → Int} {T v n : Int} {V W : Int → Int} {a : Int} (q_v : v < 1000000000) (q_V : ∀ y : Int, a < y → y ≤ n → 0 ≤ V y ∧ 0 ≤ W y) : ∀ k : Nat, a + k ≤ n → v ≤ (zBs G T n V W a k).1 → zYo G T v V W a k = if (zBs G T n V W a k).1 = v then (zBs G T n V W a k).2.2 else 0 := by
  intro k
  induction k with
  | zero =>
    intro _ _
    show (0 : Int) = if (1000000000 : Int) = v then 0 else 0
    split <;> rfl
  | succ k z_ih =>
    intro q1 q2
    have y_dn := zBs_dn (G := G) (T := T) (n := n) (V := V) (W := W) (a := a) k
    have y1 := z_ih (by omega) (by omega)
    have y2 := q_V (a + k + 1) (by omega) (by omega)
    have y_r := zYo_rg (G := G) (T := T) (v := v) (V := V) (W := W) (a := a) (n := n) (fun y z1 z2 => (q_V y z1 z2).2) k (by omega)
    have e2 : zBs G T n V W a (k + 1) = zBt (zBs G T n V W a k) (a + k) (zLc G T a (a + k) (k + 1)) (V (a + k + 1)) (zLw G T a (a + k) (k + 1)) (W (a + k + 1)) := rfl
    have e3 : zYo G T v V W a (k + 1) = zYi G T a (a + k) (V (a + k + 1)) v (W (a + k + 1)) (zYo G T v V W a k) (k + 1) := rfl
    have y_le : v ≤ zLc G T a (a + k) (k + 1) + V (a + k + 1) := by
      by_cases y3 : zLc G T a (a + k) (k + 1) < 1000000000
      · have := y_dn.2 y3; omega
      · omega
    rw [e3, zYi_e y2.2 y_r (k + 1) y_le, y1, e2]
    unfold zBt
    by_cases y3 : 1000000000 ≤ zLc G T a (a + k) (k + 1)
    · rw [if_pos y3, if_neg (by omega)]
    · rw [if_neg y3]
      by_cases y4 : zLc G T a (a + k) (k + 1) + V (a + k + 1) < (zBs G T n V W a k).1
      · rw [if_pos y4]
        dsimp only
        have y6 : (if (zBs G T n V W a k).1 = v then (zBs G T n V W a k).2.2 else 0) = 0 := if_neg (by omega)
        rw [y6]
      · rw [if_neg y4]
        by_cases y5 : zLc G T a (a + k) (k + 1) + V (a + k + 1) = (zBs G T n V W a k).1
        · rw [if_pos y5]
          dsimp only
          rw [y5]
          by_cases y6 : (zBs G T n V W a k).1 = v
          · rw [if_pos y6, if_pos y6, if_pos y6]
          · rw [if_neg y6, if_neg y6, if_neg y6]
        · rw [if_neg y5]
          rw [if_neg (show ¬ zLc G T a (a + k) (k + 1) + V (a + k + 1) = v by omega)]
set_option maxRecDepth 20000 in
set_option maxHeartbeats 4000000 in
theorem jl_waysM (zd : Nat) (q_d : 4 ≤ zd) {zh : am_H} {N : Int} {G : Int → Int → Int} {S T : Int} {za : Int} {zb zs0 : Int} (q_nm : zMm (zh.1 55) (zh.1 56) N G S T) (q_g : zGk N G S T) (q_0 : 0 ≤ za ∧ za < N) (q_row : ∀ x : Int, 0 ≤ x → x ≤ N → zh.1 60 x.toNat = iN (zPv G T N x).1) (q_mny : ∀ x : Int, za < x → x ≤ N → zh.1 68 x.toNat = iN (zPv G T N x).2.2) (q_b : za ≤ zb ∧ zb < N) (q_s : 0 ≤ zs0 ∧ zs0 ≤ 9999) {zQ : Option Value → am_H → Prop} (zk : am_wp zd am_m_Model_waysFrom 97 [(0, .ref 55), (1, .int (iN (za))), (2, .int (iN (zYi G T za zb (zPv G T N (zb + 1)).1 (zPv G T N za).1 (zPv G T N (zb + 1)).2.2 zs0 (zb + 1 - za).toNat))), (3, .int (iN (zb))), (4, .int (iN (zb + 1)))] [] (78, 76) zh (78, 76) zQ) : ∀ (z_n : Nat) (zm : Int) (zs : Int) (q_m : za ≤ zm ∧ zm ≤ zb + 1) (q_z : zs = zYi G T za zb (zPv G T N (zb + 1)).1 (zPv G T N za).1 (zPv G T N (zb + 1)).2.2 zs0 (zm - za).toNat), zb + 1 - zm < (z_n : Int) → am_wp zd am_m_Model_waysFrom 31 [(0, .ref 55), (1, .int (iN (za))), (2, .int (iN (zs))), (3, .int (iN (zb))), (4, .int (iN (zm)))] [] (78, 76) zh (78, 76) zQ := by
  obtain ⟨zd, rfl⟩ : ∃ y_e, zd = y_e + 4 := ⟨zd - 4, by omega⟩
  intro z_n
  induction z_n with
  | zero => intro zm zs q_m q_z q_m; omega
  | succ z_n z_ih =>
    intro zm zs q_m q_z q_m
    have q_N := q_g.1
    have y_r : ∀ x : Int, 0 ≤ x → x ≤ N → 0 ≤ (zPv G T N x).1 ∧ (zPv G T N x).1 ≤ 6000000 ∧ 0 ≤ (zPv G T N x).2.2 ∧ (zPv G T N x).2.2 ≤ 9999 := fun x y1 y2 => zPv_rg q_g (Int.le_refl _) N.toNat (by omega) x (by omega) y2
    refine wp_run (k := 2) (pc1 := 34) (l1 := [(0, .ref 55), (1, .int (iN (za))), (2, .int (iN (zs))), (3, .int (iN (zb))), (4, .int (iN (zm)))]) (st1 := [.int (iN (zb)), .int (iN (zm))]) (kr1 := (78, 76)) (h1 := zh) rfl ?_
    refine wp_gt (a := zm) (b := zb) rfl (by omega) (by omega) (fun b_34 => ?_) (fun b_34 => ?_)
    · rw [show zm = zb + 1 by omega] at q_z ⊢
      rw [q_z]
      exact zk
    · have y_c := zCo_rg q_g (a := za) (b := zb) (m := zm) (by omega) (by omega) (by omega) (by omega)
      have y_p1 := y_r (zb + 1) (by omega) (by omega)
      have y_p2 := y_r za (by omega) (by omega)
      have y_y := zYi_rg (G := G) (T := T) (a := za) (b := zb) (V := (zPv G T N (zb + 1)).1) (v := (zPv G T N za).1) (M := (zPv G T N (zb + 1)).2.2) (s := zs0) (by omega) q_s (zm - za).toNat
      refine wp_run (k := 4) (pc1 := 42) (l1 := [(0, .ref 55), (1, .int (iN (za))), (2, .int (iN (zs))), (3, .int (iN (zb))), (4, .int (iN (zm)))]) (st1 := [.int (iN (zm)), .int (iN (zb)), .int (iN (za)), .ref 55]) (kr1 := (78, 76)) (h1 := zh) rfl ?_
      refine wp_call (md1 := am_m_Model_isLot) (As := [.ref 55, .int (iN (za)), .int (iN (zb)), .int (iN (zm))]) (rest := []) (kr1 := (78, 76)) rfl (jm_isLot _ (by omega) q_nm q_g (za := za) (zb := zb) (zm := zm) (by omega)) ?_
      rintro _ _ ⟨rfl, rfl⟩
      refine wp_eqb rfl (fun b_45 => ?_) (fun b_45 => ?_)
      · refine wp_run (k := 2) (pc1 := 31) (l1 := [(0, .ref 55), (1, .int (iN (za))), (2, .int (iN (zs))), (3, .int (iN (zb))), (4, .int (iN ((zm) + 1)))]) (st1 := []) (kr1 := (78, 76)) (h1 := zh) (Eq.trans (b := (some (31, [(0, .ref 55), (1, .int (iN (za))), (2, .int (iN (zs))), (3, .int (iN (zb))), (4, .int ((iN (zm)) + iN (1)))], [], (78, 76), zh) : Option am_C)) rfl (by simp only [Int32.ofInt_add, Int32.ofInt_sub, Int32.ofInt_mul, Int32.ofInt_neg])) ?_
        refine z_ih (zm + 1) (zs) (by omega) ?_ (by omega)
        rw [zYi_s G T za zb _ _ _ zs0 zm (by omega), if_neg (fun y => by first | exact absurd y.1 b_45 | (have y1 := y.2; omega)), q_z]
      · refine wp_run (k := 4) (pc1 := 53) (l1 := [(0, .ref 55), (1, .int (iN (za))), (2, .int (iN (zs))), (3, .int (iN (zb))), (4, .int (iN (zm)))]) (st1 := [.int (iN (zm)), .int (iN (zb)), .int (iN (za)), .ref 55]) (kr1 := (78, 76)) (h1 := zh) rfl ?_
        refine wp_call (md1 := am_m_Model_cost) (As := [.ref 55, .int (iN (za)), .int (iN (zb)), .int (iN (zm))]) (rest := []) (kr1 := (78, 76)) rfl (jm_cost _ (by omega) q_nm q_g (za := za) (zb := zb) (zm := zm) (by omega)) ?_
        rintro _ _ ⟨rfl, rfl⟩
        refine wp_run (k := 5) (pc1 := 63) (l1 := [(0, .ref 55), (1, .int (iN (za))), (2, .int (iN (zs))), (3, .int (iN (zb))), (4, .int (iN (zm)))]) (st1 := [.int (iN ((zb) + (1))), .ref 60, .int (iN (zCo G za zb zm))]) (kr1 := (78, 76)) (h1 := zh) (Eq.trans (b := (some (63, [(0, .ref 55), (1, .int (iN (za))), (2, .int (iN (zs))), (3, .int (iN (zb))), (4, .int (iN (zm)))], [.int ((iN (zb)) + (iN (1))), .ref 60, .int (iN (zCo G za zb zm))], (78, 76), zh) : Option am_C)) rfl (by simp only [Int32.ofInt_add, Int32.ofInt_sub, Int32.ofInt_mul, Int32.ofInt_neg])) ?_
        refine wp_iald (f := zh.1 60) (z := (zb) + (1)) (j := (zb + 1).toNat) (n := 17) (v := iN ((zPv G T N (zb + 1)).1)) rfl rfl (by omega) (by omega) (by decide) (q_row (zb + 1) (by omega) (by omega)) ?_
        refine wp_run (k := 4) (pc1 := 70) (l1 := [(0, .ref 55), (1, .int (iN (za))), (2, .int (iN (zs))), (3, .int (iN (zb))), (4, .int (iN (zm)))]) (st1 := [.int (iN (za)), .ref 60, .int (iN ((zCo G za zb zm) + ((zPv G T N (zb + 1)).1)))]) (kr1 := (78, 76)) (h1 := zh) (Eq.trans (b := (some (70, [(0, .ref 55), (1, .int (iN (za))), (2, .int (iN (zs))), (3, .int (iN (zb))), (4, .int (iN (zm)))], [.int (iN (za)), .ref 60, .int ((iN (zCo G za zb zm)) + (iN ((zPv G T N (zb + 1)).1)))], (78, 76), zh) : Option am_C)) rfl (by simp only [Int32.ofInt_add, Int32.ofInt_sub, Int32.ofInt_mul, Int32.ofInt_neg])) ?_
        refine wp_iald (f := zh.1 60) (z := za) (j := (za).toNat) (n := 17) (v := iN ((zPv G T N (za)).1)) rfl rfl (by omega) (by omega) (by decide) (q_row (za) (by omega) (by omega)) ?_
        refine wp_ne (a := (zCo G za zb zm) + ((zPv G T N (zb + 1)).1)) (b := (zPv G T N (za)).1) rfl (by omega) (by omega) (fun b_71 => ?_) (fun b_71 => ?_)
        · refine wp_run (k := 2) (pc1 := 31) (l1 := [(0, .ref 55), (1, .int (iN (za))), (2, .int (iN (zs))), (3, .int (iN (zb))), (4, .int (iN ((zm) + 1)))]) (st1 := []) (kr1 := (78, 76)) (h1 := zh) (Eq.trans (b := (some (31, [(0, .ref 55), (1, .int (iN (za))), (2, .int (iN (zs))), (3, .int (iN (zb))), (4, .int ((iN (zm)) + iN (1)))], [], (78, 76), zh) : Option am_C)) rfl (by simp only [Int32.ofInt_add, Int32.ofInt_sub, Int32.ofInt_mul, Int32.ofInt_neg])) ?_
          refine z_ih (zm + 1) (zs) (by omega) ?_ (by omega)
          rw [zYi_s G T za zb _ _ _ zs0 zm (by omega), if_neg (fun y => by first | exact absurd y.1 b_45 | (have y1 := y.2; omega)), q_z]
        · refine wp_run (k := 7) (pc1 := 85) (l1 := [(0, .ref 55), (1, .int (iN (za))), (2, .int (iN (zs))), (3, .int (iN (zb))), (4, .int (iN (zm)))]) (st1 := [.int (iN ((zb) + (1))), .ref 68, .int (iN (zs)), .int (iN (9999))]) (kr1 := (78, 76)) (h1 := zh) (Eq.trans (b := (some (85, [(0, .ref 55), (1, .int (iN (za))), (2, .int (iN (zs))), (3, .int (iN (zb))), (4, .int (iN (zm)))], [.int ((iN (zb)) + (iN (1))), .ref 68, .int (iN (zs)), .int (iN (9999))], (78, 76), zh) : Option am_C)) rfl (by simp only [Int32.ofInt_add, Int32.ofInt_sub, Int32.ofInt_mul, Int32.ofInt_neg])) ?_
          refine wp_iald (f := zh.1 68) (z := (zb) + (1)) (j := (zb + 1).toNat) (n := 17) (v := iN ((zPv G T N (zb + 1)).2.2)) rfl rfl (by omega) (by omega) (by decide) (q_mny (zb + 1) (by omega) (by omega)) ?_
          refine wp_run (k := 1) (pc1 := 87) (l1 := [(0, .ref 55), (1, .int (iN (za))), (2, .int (iN (zs))), (3, .int (iN (zb))), (4, .int (iN (zm)))]) (st1 := [.int (iN ((zs) + ((zPv G T N (zb + 1)).2.2))), .int (iN (9999))]) (kr1 := (78, 76)) (h1 := zh) (Eq.trans (b := (some (87, [(0, .ref 55), (1, .int (iN (za))), (2, .int (iN (zs))), (3, .int (iN (zb))), (4, .int (iN (zm)))], [.int ((iN (zs)) + (iN ((zPv G T N (zb + 1)).2.2))), .int (iN (9999))], (78, 76), zh) : Option am_C)) rfl (by simp only [Int32.ofInt_add, Int32.ofInt_sub, Int32.ofInt_mul, Int32.ofInt_neg])) ?_
          refine wp_now (rest := [.int (if iN ((zs) + ((zPv G T N (zb + 1)).2.2)) < iN (9999) then iN ((zs) + ((zPv G T N (zb + 1)).2.2)) else iN (9999))]) rfl ?_
          rw [show (if iN ((zs) + ((zPv G T N (zb + 1)).2.2)) < iN (9999) then iN ((zs) + ((zPv G T N (zb + 1)).2.2)) else iN (9999)) = iN (min (9999) ((zs) + ((zPv G T N (zb + 1)).2.2))) from iN_min (by omega) (by omega)]
          refine wp_run (k := 3) (pc1 := 31) (l1 := [(0, .ref 55), (1, .int (iN (za))), (2, .int (iN (min (9999) ((zs) + ((zPv G T N (zb + 1)).2.2))))), (3, .int (iN (zb))), (4, .int (iN ((zm) + 1)))]) (st1 := []) (kr1 := (78, 76)) (h1 := zh) (Eq.trans (b := (some (31, [(0, .ref 55), (1, .int (iN (za))), (2, .int (iN (min (9999) ((zs) + ((zPv G T N (zb + 1)).2.2))))), (3, .int (iN (zb))), (4, .int ((iN (zm)) + iN (1)))], [], (78, 76), zh) : Option am_C)) rfl (by simp only [Int32.ofInt_add, Int32.ofInt_sub, Int32.ofInt_mul, Int32.ofInt_neg])) ?_
          refine z_ih (zm + 1) (min (9999) ((zs) + ((zPv G T N (zb + 1)).2.2))) (by omega) ?_ (by omega)
          rw [zYi_s G T za zb _ _ _ zs0 zm (by omega), if_pos ⟨b_45, by omega⟩, q_z]
set_option maxRecDepth 20000 in
set_option maxHeartbeats 4000000 in
theorem jl_waysB (zd : Nat) (q_d : 4 ≤ zd) {zh : am_H} {N : Int} {G : Int → Int → Int} {S T : Int} {za : Int} (q_nm : zMm (zh.1 55) (zh.1 56) N G S T) (q_g : zGk N G S T) (q_0 : 0 ≤ za ∧ za < N) (q_row : ∀ x : Int, 0 ≤ x → x ≤ N → zh.1 60 x.toNat = iN (zPv G T N x).1) (q_mny : ∀ x : Int, za < x → x ≤ N → zh.1 68 x.toNat = iN (zPv G T N x).2.2) (q_dm : 0 < zD G za (N - 1)) {zQ : Option Value → am_H → Prop} (zk : ∀ zv : Int, zv = (zPv G T N za).2.2 → zQ (some (.int (iN zv))) zh) : ∀ (z_n : Nat) (zb : Int) (zs : Int) (q_b : za ≤ zb ∧ zb ≤ N) (q_z : zs = zYo G T (zPv G T N za).1 (fun y => (zPv G T N y).1) (fun y => (zPv G T N y).2.2) za (zb - za).toNat), N - zb < (z_n : Int) → am_wp zd am_m_Model_waysFrom 20 [(0, .ref 55), (1, .int (iN (za))), (2, .int (iN (zs))), (3, .int (iN (zb)))] [] (78, 76) zh (78, 76) zQ := by
  obtain ⟨zd, rfl⟩ : ∃ y_e, zd = y_e + 4 := ⟨zd - 4, by omega⟩
  intro z_n
  induction z_n with
  | zero => intro zb zs q_b q_z q_m; omega
  | succ z_n z_ih =>
    intro zb zs q_b q_z q_m
    have q_N := q_g.1
    have y_r : ∀ x : Int, 0 ≤ x → x ≤ N → 0 ≤ (zPv G T N x).1 ∧ (zPv G T N x).1 ≤ 6000000 ∧ 0 ≤ (zPv G T N x).2.2 ∧ (zPv G T N x).2.2 ≤ 9999 := fun x y1 y2 => zPv_rg q_g (Int.le_refl _) N.toNat (by omega) x (by omega) y2
    refine wp_run (k := 3) (pc1 := 25) (l1 := [(0, .ref 55), (1, .int (iN (za))), (2, .int (iN (zs))), (3, .int (iN (zb)))]) (st1 := [.int (iN (N)), .int (iN (zb))]) (kr1 := (78, 76)) (h1 := zh) (Eq.trans (b := (some (25, [(0, .ref 55), (1, .int (iN (za))), (2, .int (iN (zs))), (3, .int (iN (zb)))], [.int (zh.1 55 0), .int (iN (zb))], (78, 76), zh) : Option am_C)) rfl (by simp only [q_nm.1, Int32.ofInt_add, Int32.ofInt_sub, Int32.ofInt_mul, Int32.ofInt_neg])) ?_
    refine wp_ge (a := zb) (b := N) rfl (by omega) (by omega) (fun b_25 => ?_) (fun b_25 => ?_)
    · refine wp_run (k := 1) (pc1 := 104) (l1 := [(0, .ref 55), (1, .int (iN (za))), (2, .int (iN (zs))), (3, .int (iN (zb)))]) (st1 := [.int (iN (zs))]) (kr1 := (78, 76)) (h1 := zh) rfl ?_
      refine wp_ret (rv := some (.int (iN (zs)))) rfl ?_
      refine zk _ ?_
      rw [q_z, show zb = N by omega]
      have y_d := q_dm
      have y_p := y_r za (by omega) (by omega)
      have y_s := zPv_ss G T N za (by omega)
      unfold zPs at y_s
      rw [if_pos y_d] at y_s
      have y1 := zYo_e (G := G) (T := T) (v := (zPv G T N za).1) (n := N) (V := (fun y => (zPv G T N y).1)) (W := (fun y => (zPv G T N y).2.2)) (a := za) (by omega) (fun y y1 y2 => ⟨(y_r y (by omega) y2).1, (y_r y (by omega) y2).2.2.1⟩) (N - za).toNat (by omega) (by rw [← y_s]; exact Int.le_refl _)
      rw [← y_s, if_pos rfl] at y1
      exact y1
    · refine wp_run (k := 2) (pc1 := 31) (l1 := [(0, .ref 55), (1, .int (iN (za))), (2, .int (iN (zs))), (3, .int (iN (zb))), (4, .int (iN (za)))]) (st1 := []) (kr1 := (78, 76)) (h1 := zh) rfl ?_
      rw [q_z]
      refine jl_waysM (zs0 := zYo G T (zPv G T N za).1 (fun y => (zPv G T N y).1) (fun y => (zPv G T N y).2.2) za (zb - za).toNat) _ (by omega) q_nm q_g q_0 q_row q_mny (by omega) ?_ ?_ 20 za (zYo G T (zPv G T N za).1 (fun y => (zPv G T N y).1) (fun y => (zPv G T N y).2.2) za (zb - za).toNat) (by omega) (by rw [show (za - za).toNat = 0 by omega]; rfl) (by omega)
      · exact zYo_rg (n := N) (fun y y1 y2 => (y_r y (by omega) y2).2.2.1) (zb - za).toNat (by omega)
      refine wp_run (k := 2) (pc1 := 20) (l1 := [(0, .ref 55), (1, .int (iN (za))), (2, .int (iN (zYi G T za zb (zPv G T N (zb + 1)).1 (zPv G T N za).1 (zPv G T N (zb + 1)).2.2 (zYo G T (zPv G T N za).1 (fun y => (zPv G T N y).1) (fun y => (zPv G T N y).2.2) za (zb - za).toNat) (zb + 1 - za).toNat))), (3, .int (iN ((zb) + 1))), (4, .int (iN (zb + 1)))]) (st1 := []) (kr1 := (78, 76)) (h1 := zh) (Eq.trans (b := (some (20, [(0, .ref 55), (1, .int (iN (za))), (2, .int (iN (zYi G T za zb (zPv G T N (zb + 1)).1 (zPv G T N za).1 (zPv G T N (zb + 1)).2.2 (zYo G T (zPv G T N za).1 (fun y => (zPv G T N y).1) (fun y => (zPv G T N y).2.2) za (zb - za).toNat) (zb + 1 - za).toNat))), (3, .int ((iN (zb)) + iN (1))), (4, .int (iN (zb + 1)))], [], (78, 76), zh) : Option am_C)) rfl (by simp only [Int32.ofInt_add, Int32.ofInt_sub, Int32.ofInt_mul, Int32.ofInt_neg])) ?_
      refine wp_drop [4] (l := [(0, .ref 55), (1, .int (iN (za))), (2, .int (iN (zYi G T za zb (zPv G T N (zb + 1)).1 (zPv G T N za).1 (zPv G T N (zb + 1)).2.2 (zYo G T (zPv G T N za).1 (fun y => (zPv G T N y).1) (fun y => (zPv G T N y).2.2) za (zb - za).toNat) (zb + 1 - za).toNat))), (3, .int (iN ((zb) + 1)))]) rfl rfl ?_
      refine z_ih (zb + 1) (zYi G T za zb (zPv G T N (zb + 1)).1 (zPv G T N za).1 (zPv G T N (zb + 1)).2.2 (zYo G T (zPv G T N za).1 (fun y => (zPv G T N y).1) (fun y => (zPv G T N y).2.2) za (zb - za).toNat) (zb + 1 - za).toNat) (by omega) ?_ (by omega)
      rw [zYo_s G T _ (fun y => (zPv G T N y).1) (fun y => (zPv G T N y).2.2) za zb (by omega)]
set_option maxRecDepth 20000 in
set_option maxHeartbeats 4000000 in
theorem jm_waysFrom (zd : Nat) (q_d : 4 ≤ zd) {zh : am_H} {N : Int} {G : Int → Int → Int} {S T : Int} {za : Int} (q_nm : zMm (zh.1 55) (zh.1 56) N G S T) (q_g : zGk N G S T) (q_0 : 0 ≤ za ∧ za < N) (q_row : ∀ x : Int, 0 ≤ x → x ≤ N → zh.1 60 x.toNat = iN (zPv G T N x).1) (q_mny : ∀ x : Int, za < x → x ≤ N → zh.1 68 x.toNat = iN (zPv G T N x).2.2) : am_wp zd am_m_Model_waysFrom 0 [(0, .ref 55), (1, .int (iN (za)))] [] (78, 76) zh (78, 76) (fun rv h' => rv = some (.int (iN ((zPv G T N za).2.2))) ∧ zh = h') := by
  obtain ⟨zd, rfl⟩ : ∃ y_e, zd = y_e + 4 := ⟨zd - 4, by omega⟩
  have q_N := q_g.1
  have y_d := zD_rg q_g (a := za) (b := N - 1) (by omega) (by omega) (by omega)
  refine wp_run (k := 6) (pc1 := 8) (l1 := [(0, .ref 55), (1, .int (iN (za)))]) (st1 := [.int (iN ((N) - (1))), .int (iN (za)), .ref 55]) (kr1 := (78, 76)) (h1 := zh) (Eq.trans (b := (some (8, [(0, .ref 55), (1, .int (iN (za)))], [.int ((zh.1 55 0) - (iN (1))), .int (iN (za)), .ref 55], (78, 76), zh) : Option am_C)) rfl (by simp only [q_nm.1, Int32.ofInt_add, Int32.ofInt_sub, Int32.ofInt_mul, Int32.ofInt_neg])) ?_
  refine wp_call (md1 := am_m_Model_demand) (As := [.ref 55, .int (iN (za)), .int (iN ((N) - (1)))]) (rest := []) (kr1 := (78, 76)) rfl (jm_demand _ (by omega) q_nm q_g (za := za) (zb := (N) - (1)) (by omega)) ?_
  rintro _ _ ⟨rfl, rfl⟩
  refine wp_ne0 (a := zD G (za) ((N) - (1))) rfl (by omega) (fun b_11 => ?_) (fun b_11 => ?_)
  · refine wp_run (k := 4) (pc1 := 20) (l1 := [(0, .ref 55), (1, .int (iN (za))), (2, .int (iN (0))), (3, .int (iN (za)))]) (st1 := []) (kr1 := (78, 76)) (h1 := zh) rfl ?_
    exact jl_waysB _ (by omega) q_nm q_g q_0 q_row q_mny (by omega) (fun zv q_v => ⟨by rw [q_v], rfl⟩) 20 za 0 (by omega) (by rw [show (za - za).toNat = 0 by omega]; rfl) (by omega)
  · refine wp_run (k := 1) (pc1 := 15) (l1 := [(0, .ref 55), (1, .int (iN (za)))]) (st1 := [.int (iN (1))]) (kr1 := (78, 76)) (h1 := zh) rfl ?_
    refine wp_ret (rv := some (.int (iN (1)))) rfl ?_
    have y_s := zPv_ss G T N za (by omega)
    unfold zPs at y_s
    rw [if_neg (by omega)] at y_s
    exact ⟨by rw [y_s], rfl⟩
set_option maxRecDepth 20000 in
set_option maxHeartbeats 4000000 in
theorem jl_ways (zd : Nat) (q_d : 5 ≤ zd) {zh : am_H} {N : Int} {G : Int → Int → Int} {S T : Int} (q_nm : zMm (zh.1 55) (zh.1 56) N G S T) (q_g : zGk N G S T) (q_row : ∀ x : Int, 0 ≤ x → x ≤ N → zh.1 60 x.toNat = iN (zPv G T N x).1) {zQ : Option Value → am_H → Prop} (zk : ∀ zg : am_H, am_fr [68] zh zg → zQ (some (.int (iN (zPv G T N 0).2.2))) zg) : ∀ (z_n : Nat) (zg : am_H) (zi : Int) (q_f : am_fr [68] zh zg) (q_i : -1 ≤ zi ∧ zi < N) (q_w : ∀ x : Int, zi < x → x ≤ N → zg.1 68 x.toNat = iN (zPv G T N x).2.2), zi + 2 < (z_n : Int) → am_wp zd am_m_Model_ways 27 [(0, .ref 55), (1, .int (iN (zi)))] [] (78, 76) zg (78, 76) zQ := by
  obtain ⟨zd, rfl⟩ : ∃ y_e, zd = y_e + 5 := ⟨zd - 5, by omega⟩
  intro z_n
  induction z_n with
  | zero => intro zg zi q_f q_i q_w q_m; omega
  | succ z_n z_ih =>
    intro zg zi q_f q_i q_w q_m
    have q_N := q_g.1
    refine wp_run (k := 1) (pc1 := 28) (l1 := [(0, .ref 55), (1, .int (iN (zi)))]) (st1 := [.int (iN (zi))]) (kr1 := (78, 76)) (h1 := zg) rfl ?_
    refine wp_lt0 (a := zi) rfl (by omega) (fun b_28 => ?_) (fun b_28 => ?_)
    · refine wp_run (k := 3) (pc1 := 53) (l1 := [(0, .ref 55), (1, .int (iN (zi)))]) (st1 := [.int (iN (0)), .ref 68]) (kr1 := (78, 76)) (h1 := zg) rfl ?_
      refine wp_iald (f := zg.1 68) (z := 0) (j := 0) (n := 17) (v := iN ((zPv G T N 0).2.2)) rfl rfl (by omega) (by omega) (by decide) (q_w 0 (by omega) (by omega)) ?_
      refine wp_ret (rv := some (.int (iN ((zPv G T N 0).2.2)))) rfl ?_
      exact zk zg q_f
    · refine wp_run (k := 5) (pc1 := 38) (l1 := [(0, .ref 55), (1, .int (iN (zi)))]) (st1 := [.int (iN (zi)), .ref 55, .int (iN (zi)), .ref 68]) (kr1 := (78, 76)) (h1 := zg) rfl ?_
      refine wp_call (md1 := am_m_Model_waysFrom) (As := [.ref 55, .int (iN (zi))]) (rest := [.int (iN (zi)), .ref 68]) (kr1 := (78, 76)) rfl (jm_waysFrom _ (by omega) (zMm_f q_f q_nm (by decide) (by decide)) q_g (za := zi) (by omega) (by rw [q_f.2 60 (by decide)]; exact q_row) (fun x y1 y2 => q_w x y1 y2)) ?_
      rintro _ _ ⟨rfl, rfl⟩
      refine wp_iast (z := zi) (j := zi.toNat) (n := 17) rfl (by decide) (by decide) rfl rfl (by omega) (by omega) (by decide) ?_
      refine wp_run (k := 2) (pc1 := 27) (l1 := [(0, .ref 55), (1, .int (iN ((zi) + (-1))))]) (st1 := []) (kr1 := (78, 76)) (h1 := am_wr zg 68 (zi.toNat) (iN ((zPv G T N zi).2.2))) (Eq.trans (b := (some (27, [(0, .ref 55), (1, .int ((iN (zi)) + iN (-1)))], [], (78, 76), am_wr zg 68 (zi.toNat) (iN ((zPv G T N zi).2.2))) : Option am_C)) rfl (by simp only [Int32.ofInt_add, Int32.ofInt_sub, Int32.ofInt_mul, Int32.ofInt_neg])) ?_
      refine z_ih _ (zi + (-1)) (am_fr_w q_f (by decide) _ _) (by omega) (fun x y1 y2 => ?_) (by omega)
      by_cases y3 : x = zi
      · rw [y3, am_wr_at]
      · rw [am_wr_no (by omega)]; exact q_w x (by omega) y2
set_option maxRecDepth 20000 in
set_option maxHeartbeats 4000000 in
theorem jm_ways (zd : Nat) (q_d : 6 ≤ zd) {zh : am_H} {N : Int} {G : Int → Int → Int} {S T : Int} (q_nm : zMm (zh.1 55) (zh.1 56) N G S T) (q_g : zGk N G S T) : am_wp zd am_m_Model_ways 0 [(0, .ref 55)] [] (78, 76) zh (78, 76) (fun rv h' => rv = some (.int (iN (zPv G T N 0).2.2)) ∧ am_fr [60, 61, 62, 68] zh h') := by
  obtain ⟨zd, rfl⟩ : ∃ y_e, zd = y_e + 6 := ⟨zd - 6, by omega⟩
  have q_N := q_g.1
  refine wp_run (k := 4) (pc1 := 6) (l1 := [(0, .ref 55)]) (st1 := [.int (iN (N)), .int (iN (0)), .ref 55]) (kr1 := (78, 76)) (h1 := zh) (Eq.trans (b := (some (6, [(0, .ref 55)], [.int (zh.1 55 0), .int (iN (0)), .ref 55], (78, 76), zh) : Option am_C)) rfl (by simp only [(show (zh).1 55 0 = iN N from q_nm.1), Int32.ofInt_add, Int32.ofInt_sub, Int32.ofInt_mul, Int32.ofInt_neg])) ?_
  refine wp_call (md1 := am_m_Model_plans) (As := [.ref 55, .int (iN (0)), .int (iN (N))]) (rest := []) (kr1 := (78, 76)) rfl (jm_plans _ (by omega) q_nm q_g (za := 0) (zn := N) (by omega)) ?_
  rintro _ zg1 ⟨rfl, q_f1, q_row1⟩
  refine wp_run (k := 6) (pc1 := 19) (l1 := [(0, .ref 55)]) (st1 := [.int (iN (1)), .int (iN (N)), .ref 68]) (kr1 := (78, 76)) (h1 := zg1) (Eq.trans (b := (some (19, [(0, .ref 55)], [.int (iN (1)), .int (zg1.1 55 0), .ref 68], (78, 76), zg1) : Option am_C)) rfl (by simp only [(show (zg1).1 55 0 = iN N from (congrFun (q_f1.2 55 (by decide)) 0).trans q_nm.1), Int32.ofInt_add, Int32.ofInt_sub, Int32.ofInt_mul, Int32.ofInt_neg])) ?_
  refine wp_iast (z := N) (j := N.toNat) (n := 17) rfl (by decide) (by decide) rfl rfl (by omega) (by omega) (by decide) ?_
  refine wp_run (k := 5) (pc1 := 27) (l1 := [(0, .ref 55), (1, .int (iN ((N) - (1))))]) (st1 := []) (kr1 := (78, 76)) (h1 := am_wr zg1 68 (N.toNat) (iN (1))) (Eq.trans (b := (some (27, [(0, .ref 55), (1, .int (((am_wr zg1 68 (N.toNat) (iN (1))).1 55 0) - (iN (1))))], [], (78, 76), am_wr zg1 68 (N.toNat) (iN (1))) : Option am_C)) rfl (by simp only [(show (am_wr zg1 68 (N.toNat) (iN (1))).1 55 0 = iN N from (congrFun (am_wr_ne (by decide)) 0).trans ((congrFun (q_f1.2 55 (by decide)) 0).trans q_nm.1))]; try simp only [Int32.ofInt_add, Int32.ofInt_sub, Int32.ofInt_mul, Int32.ofInt_neg])) ?_
  have q_f2 : am_fr [60, 61, 62, 68] zh (am_wr zg1 68 (N.toNat) (iN (1))) := am_fr_w (am_fr_m q_f1 (fun c y => by simp only [List.mem_cons, List.not_mem_nil, or_false] at y ⊢; omega)) (by decide) _ _
  refine jl_ways (zh := am_wr zg1 68 (N.toNat) (iN (1))) _ (by omega) (zMm_f q_f2 q_nm (by decide) (by decide)) q_g (fun x y1 y2 => ?_) (fun zg y1 => ⟨rfl, am_fr_t q_f2 (am_fr_m y1 (fun c y => by simp only [List.mem_cons, List.not_mem_nil, or_false] at y ⊢; omega))⟩) 20 (am_wr zg1 68 (N.toNat) (iN (1))) (N - 1) (am_fr_0 _ _) (by omega) (fun x y1 y2 => ?_) (by omega)
  · rw [am_wr_ne (by decide)]; exact (q_row1 x y1 y2).1
  · rw [show x = N by omega, am_wr_at, zPv_n]
