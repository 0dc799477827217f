/-! THE REFERENCE's looks, plans -/
def zH3 (zh : am_H) (a : Int) (s : Int × Int × Int) : am_H := am_wr (am_wr (am_wr zh 60 a.toNat (iN s.1)) 61 a.toNat (iN s.2.1)) 62 a.toNat (iN s.2.2)
theorem am_wr_wr (zh : am_H) (zc zj : Nat) (zu zv : Int32) : am_wr (am_wr zh zc zj zu) zc zj zv = am_wr zh zc zj zv := by
  refine Prod.ext ?_ rfl
  funext x y
  show (if x = zc ∧ y = zj then zv else (if x = zc ∧ y = zj then zu else zh.1 x y)) = (if x = zc ∧ y = zj then zv else zh.1 x y)
  split <;> rfl
theorem am_wr_sw (zh : am_H) {zc zd : Nat} (q : zc ≠ zd) (zi zj : Nat) (zu zv : Int32) : am_wr (am_wr zh zc zi zu) zd zj zv = am_wr (am_wr zh zd zj zv) zc zi zu := by
  refine Prod.ext ?_ rfl
  funext x y
  show (if x = zd ∧ y = zj then zv else (if x = zc ∧ y = zi then zu else zh.1 x y)) = (if x = zc ∧ y = zi then zu else (if x = zd ∧ y = zj then zv else zh.1 x y))
  by_cases q1 : x = zd ∧ y = zj
  · rw [if_pos q1, if_neg (fun z => q (z.1.symm.trans q1.1)), if_pos q1]
  · rw [if_neg q1, if_neg q1]
theorem am_wr_id (zh : am_H) (zc zj : Nat) : am_wr zh zc zj (zh.1 zc zj) = zh := by
  refine Prod.ext ?_ rfl
  funext x y
  show (if x = zc ∧ y = zj then zh.1 zc zj else zh.1 x y) = zh.1 x y
  by_cases q : x = zc ∧ y = zj
  · rw [if_pos q, q.1, q.2]
  · rw [if_neg q]
theorem zH3_w (zh : am_H) (a : Int) (s : Int × Int × Int) (v b m : Int) : am_wr (am_wr (am_wr (zH3 zh a s) 60 a.toNat (iN v)) 61 a.toNat (iN b)) 62 a.toNat (iN m) = zH3 zh a (v, b, m) := by
  unfold zH3
  rw [am_wr_sw _ (show 62 ≠ 60 by decide), am_wr_sw _ (show 61 ≠ 60 by decide), am_wr_wr, am_wr_sw _ (show 62 ≠ 61 by decide), am_wr_wr, am_wr_wr]
theorem zH3_0 (zh : am_H) (a v : Int) : am_wr zh 60 a.toNat (iN v) = zH3 zh a (v, (zh.1 61 a.toNat).toInt, (zh.1 62 a.toNat).toInt) := by
  unfold zH3
  dsimp only
  rw [iN_self, iN_self, am_wr_sw _ (show 60 ≠ 61 by decide), am_wr_sw _ (show 60 ≠ 62 by decide), am_wr_id, am_wr_id]
theorem zH3_fr (zh : am_H) (a : Int) (s : Int × Int × Int) : am_fr [60, 61, 62] zh (zH3 zh a s) := am_fr_w (am_fr_w (am_fr_w (am_fr_0 _ _) (by decide) _ _) (by decide) _ _) (by decide) _ _
theorem zH3_1 (zh : am_H) (a : Int) (s : Int × Int × Int) : (zH3 zh a s).1 60 a.toNat = iN s.1 := by
  unfold zH3
  rw [am_wr_ne (by decide), am_wr_ne (by decide), am_wr_at]
theorem zH3_2 (zh : am_H) (a : Int) (s : Int × Int × Int) : (zH3 zh a s).1 61 a.toNat = iN s.2.1 := by
  unfold zH3
  rw [am_wr_ne (by decide), am_wr_at]
theorem zH3_3 (zh : am_H) (a : Int) (s : Int × Int × Int) : (zH3 zh a s).1 62 a.toNat = iN s.2.2 := by
  unfold zH3
  rw [am_wr_at]
theorem zH3_o (zh : am_H) (a : Int) (s : Int × Int × Int) {x : Nat} (q : x ≠ a.toNat) : (zH3 zh a s).1 60 x = zh.1 60 x ∧ (zH3 zh a s).1 61 x = zh.1 61 x ∧ (zH3 zh a s).1 62 x = zh.1 62 x := by
  unfold zH3
  refine ⟨?_, ?_, ?_⟩
  · rw [am_wr_ne (by decide), am_wr_ne (by decide), am_wr_no q]
  · rw [am_wr_ne (by decide), am_wr_no q, am_wr_ne (by decide)]
  · rw [am_wr_no q, am_wr_ne (by decide), am_wr_ne (by decide)]
/-- the reference's scan: the first k periods to make the lot a .. b in -/
def zQs (G : Int → Int → Int) (T V a b : Int) (s : Int × Int × Int) : Nat → Int × Int × Int
  | 0 => s
  | k + 1 => if zIsL G T a b (a + k) ∧ zCo G a b (a + k) + V < (zQs G T V a b s k).1 then (zCo G a b (a + k) + V, b, a + k) else zQs G T V a b s k
theorem zQs_e {G : Int → Int → Int} {T V a b : Int} {s : Int × Int × Int} (q_V : 0 ≤ V) (q_s : s.1 ≤ 1000000000) : ∀ k : Nat, zQs G T V a b s k = if zLc G T a b k + V < s.1 then (zLc G T a b k + V, b, zLm G T a b k) else s := by
  intro k
  induction k with
  | zero =>
    rw [if_neg (by show ¬ (1000000000 : Int) + V < s.1; omega)]
    rfl
  | succ k z_ih =>
    have e1 : zLc G T a b (k + 1) = if zIsL G T a b (a + k) ∧ zCo G a b (a + k) < zLc G T a b k then zCo G a b (a + k) else zLc G T a b k := rfl
    have e2 : zLm G T a b (k + 1) = if zIsL G T a b (a + k) ∧ zCo G a b (a + k) < zLc G T a b k then a + (k : Int) else zLm G T a b k := rfl
    have e3 : zQs G T V a b s (k + 1) = if zIsL G T a b (a + k) ∧ zCo G a b (a + k) + V < (zQs G T V a b s k).1 then (zCo G a b (a + k) + V, b, a + (k : Int)) else zQs G T V a b s k := rfl
    by_cases y1 : zIsL G T a b (a + k)
    · by_cases y2 : zCo G a b (a + k) < zLc G T a b k
      · rw [e1.trans (if_pos ⟨y1, y2⟩), e2.trans (if_pos ⟨y1, y2⟩), e3, z_ih]
        by_cases y3 : zCo G a b (a + k) + V < s.1
        · have y4 : zCo G a b (a + k) + V < (if zLc G T a b k + V < s.1 then (zLc G T a b k + V, b, zLm G T a b k) else s).1 := by
            split
            · show zCo G a b (a + k) + V < zLc G T a b k + V
              omega
            · exact y3
          rw [if_pos ⟨y1, y4⟩, if_pos y3]
        · rw [if_neg (show ¬ zLc G T a b k + V < s.1 by omega), if_neg (fun y => y3 y.2), if_neg y3]
      · rw [e1.trans (if_neg (fun y => y2 y.2)), e2.trans (if_neg (fun y => y2 y.2)), e3, z_ih]
        rw [if_neg (fun y => by
          have y5 := y.2
          by_cases y6 : zLc G T a b k + V < s.1
          · rw [if_pos y6] at y5
            exact y2 (by have y7 : zCo G a b (a + k) + V < zLc G T a b k + V := y5; omega)
          · rw [if_neg y6] at y5
            omega)]
    · rw [e1.trans (if_neg (fun y => y1 y.1)), e2.trans (if_neg (fun y => y1 y.1)), e3, z_ih, if_neg (fun y => y1 y.1)]
theorem zQs_s (G : Int → Int → Int) (T V a b : Int) (s : Int × Int × Int) (m : Int) (q : a ≤ m) : zQs G T V a b s (m + 1 - a).toNat = if zIsL G T a b m ∧ zCo G a b m + V < (zQs G T V a b s (m - a).toNat).1 then (zCo G a b m + V, b, m) else zQs G T V a b s (m - a).toNat := by
  rw [show (m + 1 - a).toNat = (m - a).toNat + 1 by omega]
  show (if zIsL G T a b (a + ((m - a).toNat : Int)) ∧ zCo G a b (a + ((m - a).toNat : Int)) + V < _ then (zCo G a b (a + ((m - a).toNat : Int)) + V, b, a + ((m - a).toNat : Int)) else _) = _
  rw [show a + ((m - a).toNat : Int) = m by omega]
def zRs (G : Int → Int → Int) (T : Int) (V : Int → Int) (a : Int) (s0 : Int × Int × Int) : Nat → Int × Int × Int
  | 0 => s0
  | k + 1 => zQs G T (V (a + k + 1)) a (a + k) (zRs G T V a s0 k) (k + 1)
theorem zRs_s (G : Int → Int → Int) (T : Int) (V : Int → Int) (a b : Int) (s0 : Int × Int × Int) (q : a ≤ b) : zRs G T V a s0 (b + 1 - a).toNat = zQs G T (V (b + 1)) a b (zRs G T V a s0 (b - a).toNat) (b + 1 - a).toNat := by
  rw [show (b + 1 - a).toNat = (b - a).toNat + 1 by omega]
  show zQs G T (V (a + ((b - a).toNat : Int) + 1)) a (a + ((b - a).toNat : Int)) _ _ = _
  rw [show a + ((b - a).toNat : Int) = b by omega]
theorem zRs_e {G : Int → Int → Int} {T n : Int} {V W : Int → Int} {a : Int} {s0 : Int × Int × Int} (q_0 : s0.1 = 1000000000) : ∀ k : Nat, a + k ≤ n → (∀ y : Int, a < y → y ≤ n → 0 ≤ V y) → (zRs G T V a s0 k).1 = (zBs G T n V W a k).1 ∧ (zBs G T n V W a k).1 ≤ 1000000000 ∧ ((zBs G T n V W a k).1 < 1000000000 → (zRs G T V a s0 k).2.1 = (zBs G T n V W a k).2.1 ∧ (zRs G T V a s0 k).2.2 = zLm G T a (zBs G T n V W a k).2.1 ((zBs G T n V W a k).2.1 + 1 - a).toNat) := by
  intro k
  induction k with
  | zero => intro _ _; exact ⟨q_0, by show (1000000000 : Int) ≤ 1000000000; decide, fun y => absurd y (by show ¬ (1000000000 : Int) < 1000000000; decide)⟩
  | succ k z_ih =>
    intro q1 q2
    have y1 := z_ih (by omega) q2
    have y2 := q2 (a + k + 1) (by omega) (by omega)
    have e1 : zRs G T V a s0 (k + 1) = zQs G T (V (a + k + 1)) a (a + k) (zRs G T V a s0 k) (k + 1) := rfl
    have e2 : zBs G T n V W a (k + 1) = zBt (zBs G T n V W a k) (a + k) (zLc G T a (a + k) (k + 1)) (V (a + k + 1)) (zLw G T a (a + k) (k + 1)) (W (a + k + 1)) := rfl
    rw [e1, e2, zQs_e y2 (by omega)]
    unfold zBt
    by_cases y3 : zLc G T a (a + k) (k + 1) + V (a + k + 1) < (zBs G T n V W a k).1
    · rw [if_pos (by omega), if_neg (by omega), if_pos y3]
      refine ⟨rfl, by dsimp only; omega, fun _ => ⟨rfl, ?_⟩⟩
      dsimp only
      rw [show (a + (k : Int) + 1 - a).toNat = k + 1 by omega]
    · rw [if_neg (by omega)]
      by_cases y5 : 1000000000 ≤ zLc G T a (a + k) (k + 1)
      · rw [if_pos y5]; exact y1
      · rw [if_neg y5, if_neg y3]
        by_cases y6 : zLc G T a (a + k) (k + 1) + V (a + k + 1) = (zBs G T n V W a k).1
        · rw [if_pos y6]; exact ⟨y1.1, y1.2.1, fun y => y1.2.2 y⟩
        · rw [if_neg y6]; exact y1
/-- the reference's rows of a part that ends with n, from a on -/
def zMrow (zg : am_H) (G : Int → Int → Int) (T n a : Int) : Prop := ∀ x : Int, a ≤ x → x ≤ n → zg.1 60 x.toNat = iN (zPv G T n x).1 ∧ (0 < zD G x (n - 1) → zg.1 61 x.toNat = iN (zPv G T n x).2.1 ∧ zg.1 62 x.toNat = iN (zLm G T x (zPv G T n x).2.1 ((zPv G T n x).2.1 + 1 - x).toNat)) ∧ (zD G x (n - 1) = 0 → zg.1 61 x.toNat = iN (-1))
set_option maxRecDepth 20000 in
set_option maxHeartbeats 4000000 in
theorem jl_looksM (zd : Nat) (q_d : 4 ≤ zd) {zh : am_H} {N : Int} {G : Int → Int → Int} {S T : Int} {V : Int → Int} {za zn : Int} {zb : Int} {zs0 : Int × Int × Int} (q_nm : zMm (zh.1 55) (zh.1 56) N G S T) (q_g : zGk N G S T) (q_0 : 0 ≤ za ∧ za ≤ zn ∧ zn ≤ N) (q_V : ∀ x : Int, za < x → x ≤ zn → zh.1 60 x.toNat = iN (V x) ∧ 0 ≤ V x ∧ V x ≤ 100000000) (q_b : za ≤ zb ∧ zb < zn) (q_s : zs0.1 ≤ 1000000000 ∧ 0 ≤ zs0.1) {zQ : Option Value → am_H → Prop} (zk : am_wp zd am_m_Model_looks 97 [(0, .ref 55), (1, .int (iN (za))), (2, .int (iN (zn))), (3, .int (iN (zb))), (4, .int (iN (zb + 1)))] [] (78, 76) (zH3 zh za (zQs G T (V (zb + 1)) za zb zs0 (zb + 1 - za).toNat)) (78, 76) zQ) : ∀ (z_n : Nat) (zm : Int) (q_m : za ≤ zm ∧ zm ≤ zb + 1), zb + 1 - zm < (z_n : Int) → am_wp zd am_m_Model_looks 18 [(0, .ref 55), (1, .int (iN (za))), (2, .int (iN (zn))), (3, .int (iN (zb))), (4, .int (iN (zm)))] [] (78, 76) (zH3 zh za (zQs G T (V (zb + 1)) za zb zs0 (zm - za).toNat)) (78, 76) zQ := by
  obtain ⟨zd, rfl⟩ : ∃ y_e, zd = y_e + 4 := ⟨zd - 4, by omega⟩
  intro z_n
  induction z_n with
  | zero => intro zm q_m q_m; omega
  | succ z_n z_ih =>
    intro zm q_m q_m
    have q_N := q_g.1
    have y_V := q_V (zb + 1) (by omega) (by omega)
    have y_qs : ∀ m : Int, m ≤ zb + 1 → (zQs G T (V (zb + 1)) za zb zs0 (m - za).toNat).1 ≤ 1000000000 ∧ 0 ≤ (zQs G T (V (zb + 1)) za zb zs0 (m - za).toNat).1 := by
      intro m y1
      have y2 := zLc_rg (T := T) q_g (a := za) (b := zb) (by omega) (by omega) (m - za).toNat (by omega)
      rw [zQs_e y_V.2.1 q_s.1]
      split
      · dsimp only; omega
      · omega
    refine wp_run (k := 2) (pc1 := 21) (l1 := [(0, .ref 55), (1, .int (iN (za))), (2, .int (iN (zn))), (3, .int (iN (zb))), (4, .int (iN (zm)))]) (st1 := [.int (iN (zb)), .int (iN (zm))]) (kr1 := (78, 76)) (h1 := zH3 zh za (zQs G T (V (zb + 1)) za zb zs0 (zm - za).toNat)) rfl ?_
    refine wp_gt (a := zm) (b := zb) rfl (by omega) (by omega) (fun b_21 => ?_) (fun b_21 => ?_)
    · have y_9 : zm = zb + 1 := by omega
      rw [y_9]
      exact zk
    · have y_c := zCo_rg q_g (a := za) (b := zb) (m := zm) (by omega) (by omega) (by omega) (by omega)
      have y_q : (zQs G T (V (zb + 1)) za zb zs0 (zm - za).toNat).1 ≤ 1000000000 ∧ 0 ≤ (zQs G T (V (zb + 1)) za zb zs0 (zm - za).toNat).1 := y_qs zm (by omega)
      refine wp_run (k := 4) (pc1 := 29) (l1 := [(0, .ref 55), (1, .int (iN (za))), (2, .int (iN (zn))), (3, .int (iN (zb))), (4, .int (iN (zm)))]) (st1 := [.int (iN (zm)), .int (iN (zb)), .int (iN (za)), .ref 55]) (kr1 := (78, 76)) (h1 := zH3 zh za (zQs G T (V (zb + 1)) za zb zs0 (zm - za).toNat)) rfl ?_
      refine wp_call (md1 := am_m_Model_isLot) (As := [.ref 55, .int (iN (za)), .int (iN (zb)), .int (iN (zm))]) (rest := []) (kr1 := (78, 76)) rfl (jm_isLot _ (by omega) (zMm_f (zH3_fr _ _ _) q_nm (by decide) (by decide)) q_g (za := za) (zb := zb) (zm := zm) (by omega)) ?_
      rintro _ _ ⟨rfl, rfl⟩
      refine wp_neb rfl (fun b_32 => ?_) (fun b_32 => ?_)
      · refine wp_run (k := 4) (pc1 := 43) (l1 := [(0, .ref 55), (1, .int (iN (za))), (2, .int (iN (zn))), (3, .int (iN (zb))), (4, .int (iN (zm)))]) (st1 := [.int (iN (zm)), .int (iN (zb)), .int (iN (za)), .ref 55]) (kr1 := (78, 76)) (h1 := zH3 zh za (zQs G T (V (zb + 1)) za zb zs0 (zm - za).toNat)) rfl ?_
        refine wp_call (md1 := am_m_Model_cost) (As := [.ref 55, .int (iN (za)), .int (iN (zb)), .int (iN (zm))]) (rest := []) (kr1 := (78, 76)) rfl (jm_cost _ (by omega) (zMm_f (zH3_fr _ _ _) q_nm (by decide) (by decide)) q_g (za := za) (zb := zb) (zm := zm) (by omega)) ?_
        rintro _ _ ⟨rfl, rfl⟩
        refine wp_run (k := 5) (pc1 := 53) (l1 := [(0, .ref 55), (1, .int (iN (za))), (2, .int (iN (zn))), (3, .int (iN (zb))), (4, .int (iN (zm)))]) (st1 := [.int (iN ((zb) + (1))), .ref 60, .int (iN (zCo G za zb zm))]) (kr1 := (78, 76)) (h1 := zH3 zh za (zQs G T (V (zb + 1)) za zb zs0 (zm - za).toNat)) (Eq.trans (b := (some (53, [(0, .ref 55), (1, .int (iN (za))), (2, .int (iN (zn))), (3, .int (iN (zb))), (4, .int (iN (zm)))], [.int ((iN (zb)) + (iN (1))), .ref 60, .int (iN (zCo G za zb zm))], (78, 76), zH3 zh za (zQs G T (V (zb + 1)) za zb zs0 (zm - za).toNat)) : Option am_C)) rfl (by simp only [Int32.ofInt_add, Int32.ofInt_sub, Int32.ofInt_mul, Int32.ofInt_neg])) ?_
        refine wp_iald (f := (zH3 zh za (zQs G T (V (zb + 1)) za zb zs0 (zm - za).toNat)).1 60) (z := (zb) + (1)) (j := (zb + 1).toNat) (n := 17) (v := iN (V (zb + 1))) rfl rfl (by omega) (by omega) (by decide) (((zH3_o _ _ _ (by omega)).1).trans y_V.1) ?_
        refine wp_run (k := 6) (pc1 := 64) (l1 := [(0, .ref 55), (1, .int (iN (za))), (2, .int (iN (zn))), (3, .int (iN (zb))), (4, .int (iN (zm))), (5, .int (iN ((zCo G za zb zm) + (V (zb + 1)))))]) (st1 := [.int (iN (za)), .ref 60, .int (iN ((zCo G za zb zm) + (V (zb + 1))))]) (kr1 := (78, 76)) (h1 := zH3 zh za (zQs G T (V (zb + 1)) za zb zs0 (zm - za).toNat)) (Eq.trans (b := (some (64, [(0, .ref 55), (1, .int (iN (za))), (2, .int (iN (zn))), (3, .int (iN (zb))), (4, .int (iN (zm))), (5, .int ((iN (zCo G za zb zm)) + (iN (V (zb + 1)))))], [.int (iN (za)), .ref 60, .int ((iN (zCo G za zb zm)) + (iN (V (zb + 1))))], (78, 76), zH3 zh za (zQs G T (V (zb + 1)) za zb zs0 (zm - za).toNat)) : Option am_C)) rfl (by simp only [Int32.ofInt_add, Int32.ofInt_sub, Int32.ofInt_mul, Int32.ofInt_neg])) ?_
        refine wp_iald (f := (zH3 zh za (zQs G T (V (zb + 1)) za zb zs0 (zm - za).toNat)).1 60) (z := za) (j := za.toNat) (n := 17) (v := iN (zQs G T (V (zb + 1)) za zb zs0 (zm - za).toNat).1) rfl rfl (by omega) (by omega) (by decide) (zH3_1 _ _ _) ?_
        refine wp_ge (a := (zCo G za zb zm) + (V (zb + 1))) (b := (zQs G T (V (zb + 1)) za zb zs0 (zm - za).toNat).1) rfl (by omega) (by omega) (fun b_65 => ?_) (fun b_65 => ?_)
        · refine wp_run (k := 2) (pc1 := 18) (l1 := [(0, .ref 55), (1, .int (iN (za))), (2, .int (iN (zn))), (3, .int (iN (zb))), (4, .int (iN ((zm) + 1))), (5, .int (iN ((zCo G za zb zm) + (V (zb + 1)))))]) (st1 := []) (kr1 := (78, 76)) (h1 := zH3 zh za (zQs G T (V (zb + 1)) za zb zs0 (zm - za).toNat)) (Eq.trans (b := (some (18, [(0, .ref 55), (1, .int (iN (za))), (2, .int (iN (zn))), (3, .int (iN (zb))), (4, .int ((iN (zm)) + iN (1))), (5, .int (iN ((zCo G za zb zm) + (V (zb + 1)))))], [], (78, 76), zH3 zh za (zQs G T (V (zb + 1)) za zb zs0 (zm - za).toNat)) : Option am_C)) rfl (by simp only [Int32.ofInt_add, Int32.ofInt_sub, Int32.ofInt_mul, Int32.ofInt_neg])) ?_
          refine wp_drop [5] (l := [(0, .ref 55), (1, .int (iN (za))), (2, .int (iN (zn))), (3, .int (iN (zb))), (4, .int (iN ((zm) + 1)))]) rfl rfl ?_
          rw [show zQs G T (V (zb + 1)) za zb zs0 (zm - za).toNat = zQs G T (V (zb + 1)) za zb zs0 (zm + 1 - za).toNat from by rw [zQs_s G T _ za zb zs0 zm (by omega), if_neg (fun y => (by have y1 := y.2; omega : False))]]
          exact z_ih (zm + 1) (by omega) (by omega)
        · refine wp_run (k := 4) (pc1 := 75) (l1 := [(0, .ref 55), (1, .int (iN (za))), (2, .int (iN (zn))), (3, .int (iN (zb))), (4, .int (iN (zm))), (5, .int (iN ((zCo G za zb zm) + (V (zb + 1)))))]) (st1 := [.int (iN ((zCo G za zb zm) + (V (zb + 1)))), .int (iN (za)), .ref 60]) (kr1 := (78, 76)) (h1 := zH3 zh za (zQs G T (V (zb + 1)) za zb zs0 (zm - za).toNat)) rfl ?_
          refine wp_iast (z := za) (j := za.toNat) (n := 17) rfl (by decide) (by decide) rfl rfl (by omega) (by omega) (by decide) ?_
          refine wp_run (k := 4) (pc1 := 82) (l1 := [(0, .ref 55), (1, .int (iN (za))), (2, .int (iN (zn))), (3, .int (iN (zb))), (4, .int (iN (zm))), (5, .int (iN ((zCo G za zb zm) + (V (zb + 1)))))]) (st1 := [.int (iN (zb)), .int (iN (za)), .ref 61]) (kr1 := (78, 76)) (h1 := am_wr (zH3 zh za (zQs G T (V (zb + 1)) za zb zs0 (zm - za).toNat)) 60 (za.toNat) (iN ((zCo G za zb zm) + (V (zb + 1))))) rfl ?_
          refine wp_iast (z := za) (j := za.toNat) (n := 17) rfl (by decide) (by decide) rfl rfl (by omega) (by omega) (by decide) ?_
          refine wp_run (k := 4) (pc1 := 90) (l1 := [(0, .ref 55), (1, .int (iN (za))), (2, .int (iN (zn))), (3, .int (iN (zb))), (4, .int (iN (zm))), (5, .int (iN ((zCo G za zb zm) + (V (zb + 1)))))]) (st1 := [.int (iN (zm)), .int (iN (za)), .ref 62]) (kr1 := (78, 76)) (h1 := am_wr (am_wr (zH3 zh za (zQs G T (V (zb + 1)) za zb zs0 (zm - za).toNat)) 60 (za.toNat) (iN ((zCo G za zb zm) + (V (zb + 1))))) 61 (za.toNat) (iN (zb))) rfl ?_
          refine wp_iast (z := za) (j := za.toNat) (n := 17) rfl (by decide) (by decide) rfl rfl (by omega) (by omega) (by decide) ?_
          refine wp_run (k := 2) (pc1 := 18) (l1 := [(0, .ref 55), (1, .int (iN (za))), (2, .int (iN (zn))), (3, .int (iN (zb))), (4, .int (iN ((zm) + 1))), (5, .int (iN ((zCo G za zb zm) + (V (zb + 1)))))]) (st1 := []) (kr1 := (78, 76)) (h1 := am_wr (am_wr (am_wr (zH3 zh za (zQs G T (V (zb + 1)) za zb zs0 (zm - za).toNat)) 60 (za.toNat) (iN ((zCo G za zb zm) + (V (zb + 1))))) 61 (za.toNat) (iN (zb))) 62 (za.toNat) (iN (zm))) (Eq.trans (b := (some (18, [(0, .ref 55), (1, .int (iN (za))), (2, .int (iN (zn))), (3, .int (iN (zb))), (4, .int ((iN (zm)) + iN (1))), (5, .int (iN ((zCo G za zb zm) + (V (zb + 1)))))], [], (78, 76), am_wr (am_wr (am_wr (zH3 zh za (zQs G T (V (zb + 1)) za zb zs0 (zm - za).toNat)) 60 (za.toNat) (iN ((zCo G za zb zm) + (V (zb + 1))))) 61 (za.toNat) (iN (zb))) 62 (za.toNat) (iN (zm))) : Option am_C)) rfl (by simp only [Int32.ofInt_add, Int32.ofInt_sub, Int32.ofInt_mul, Int32.ofInt_neg])) ?_
          refine wp_drop [5] (l := [(0, .ref 55), (1, .int (iN (za))), (2, .int (iN (zn))), (3, .int (iN (zb))), (4, .int (iN ((zm) + 1)))]) rfl rfl ?_
          rw [zH3_w, show ((zCo G za zb zm) + (V (zb + 1)), zb, zm) = zQs G T (V (zb + 1)) za zb zs0 (zm + 1 - za).toNat from by rw [zQs_s G T _ za zb zs0 zm (by omega), if_pos ⟨b_32, by omega⟩]]
          exact z_ih (zm + 1) (by omega) (by omega)
      · refine wp_run (k := 3) (pc1 := 18) (l1 := [(0, .ref 55), (1, .int (iN (za))), (2, .int (iN (zn))), (3, .int (iN (zb))), (4, .int (iN ((zm) + 1)))]) (st1 := []) (kr1 := (78, 76)) (h1 := zH3 zh za (zQs G T (V (zb + 1)) za zb zs0 (zm - za).toNat)) (Eq.trans (b := (some (18, [(0, .ref 55), (1, .int (iN (za))), (2, .int (iN (zn))), (3, .int (iN (zb))), (4, .int ((iN (zm)) + iN (1)))], [], (78, 76), zH3 zh za (zQs G T (V (zb + 1)) za zb zs0 (zm - za).toNat)) : Option am_C)) rfl (by simp only [Int32.ofInt_add, Int32.ofInt_sub, Int32.ofInt_mul, Int32.ofInt_neg])) ?_
        rw [show zQs G T (V (zb + 1)) za zb zs0 (zm - za).toNat = zQs G T (V (zb + 1)) za zb zs0 (zm + 1 - za).toNat from by rw [zQs_s G T _ za zb zs0 zm (by omega), if_neg (fun y => b_32 y.1)]]
        exact z_ih (zm + 1) (by omega) (by omega)
set_option maxRecDepth 20000 in
set_option maxHeartbeats 4000000 in
theorem jl_looksB (zd : Nat) (q_d : 4 ≤ zd) {zh : am_H} {N : Int} {G : Int → Int → Int} {S T : Int} {V : Int → Int} {za zn : Int} {zs0 : Int × Int × Int} (q_nm : zMm (zh.1 55) (zh.1 56) N G S T) (q_g : zGk N G S T) (q_0 : 0 ≤ za ∧ za ≤ zn ∧ zn ≤ N) (q_V : ∀ x : Int, za < x → x ≤ zn → zh.1 60 x.toNat = iN (V x) ∧ 0 ≤ V x ∧ V x ≤ 100000000) (q_s0 : zs0.1 = 1000000000) {zQ : Option Value → am_H → Prop} (zk : zQ none (zH3 zh za (zRs G T V za zs0 (zn - za).toNat))) : ∀ (z_n : Nat) (zb : Int) (q_b : za ≤ zb ∧ zb ≤ zn), zn - zb < (z_n : Int) → am_wp zd am_m_Model_looks 10 [(0, .ref 55), (1, .int (iN (za))), (2, .int (iN (zn))), (3, .int (iN (zb)))] [] (78, 76) (zH3 zh za (zRs G T V za zs0 (zb - za).toNat)) (78, 76) zQ := by
  obtain ⟨zd, rfl⟩ : ∃ y_e, zd = y_e + 4 := ⟨zd - 4, by omega⟩
  intro z_n
  induction z_n with
  | zero => intro zb q_b q_m; omega
  | succ z_n z_ih =>
    intro zb q_b q_m
    have q_N := q_g.1
    refine wp_run (k := 2) (pc1 := 12) (l1 := [(0, .ref 55), (1, .int (iN (za))), (2, .int (iN (zn))), (3, .int (iN (zb)))]) (st1 := [.int (iN (zn)), .int (iN (zb))]) (kr1 := (78, 76)) (h1 := zH3 zh za (zRs G T V za zs0 (zb - za).toNat)) rfl ?_
    refine wp_ge (a := zb) (b := zn) rfl (by omega) (by omega) (fun b_12 => ?_) (fun b_12 => ?_)
    · refine wp_ret (rv := none) rfl ?_
      rw [show zb = zn by omega]
      exact zk
    · refine wp_run (k := 2) (pc1 := 18) (l1 := [(0, .ref 55), (1, .int (iN (za))), (2, .int (iN (zn))), (3, .int (iN (zb))), (4, .int (iN (za)))]) (st1 := []) (kr1 := (78, 76)) (h1 := zH3 zh za (zRs G T V za zs0 (zb - za).toNat)) rfl ?_
      have y_s : (zRs G T V za zs0 (zb - za).toNat).1 ≤ 1000000000 ∧ 0 ≤ (zRs G T V za zs0 (zb - za).toNat).1 := by
        have y1 := zRs_e (n := zn) (T := T) (G := G) (V := V) (W := fun _ => 0) (a := za) q_s0 (zb - za).toNat (by omega) (fun y y2 y3 => (q_V y y2 y3).2.1)
        have y4 := zBs_rg (T := T) q_g (n := zn) (a := za) (V := V) (W := fun _ => 0) (by omega) (fun y y2 y3 => ⟨(q_V y y2 y3).2.1, Int.le_refl _⟩) (zb - za).toNat (by omega)
        omega
      refine Eq.mpr (congrArg (fun y_h => am_wp _ _ _ _ _ _ y_h _ _) (show zH3 zh za (zRs G T V za zs0 (zb - za).toNat) = zH3 zh za (zQs G T (V (zb + 1)) za zb (zRs G T V za zs0 (zb - za).toNat) (za - za).toNat) from by rw [show (za - za).toNat = 0 by omega]; rfl)) ?_
      refine jl_looksM _ (by omega) q_nm q_g q_0 q_V (by omega) y_s ?_ 20 za (by omega) (by omega)
      refine wp_run (k := 2) (pc1 := 10) (l1 := [(0, .ref 55), (1, .int (iN (za))), (2, .int (iN (zn))), (3, .int (iN ((zb) + 1))), (4, .int (iN (zb + 1)))]) (st1 := []) (kr1 := (78, 76)) (h1 := zH3 zh za (zQs G T (V (zb + 1)) za zb (zRs G T V za zs0 (zb - za).toNat) (zb + 1 - za).toNat)) (Eq.trans (b := (some (10, [(0, .ref 55), (1, .int (iN (za))), (2, .int (iN (zn))), (3, .int ((iN (zb)) + iN (1))), (4, .int (iN (zb + 1)))], [], (78, 76), zH3 zh za (zQs G T (V (zb + 1)) za zb (zRs G T V za zs0 (zb - za).toNat) (zb + 1 - za).toNat)) : Option am_C)) rfl (by simp only [Int32.ofInt_add, Int32.ofInt_sub, Int32.ofInt_mul, Int32.ofInt_neg])) ?_
      refine wp_drop [4] (l := [(0, .ref 55), (1, .int (iN (za))), (2, .int (iN (zn))), (3, .int (iN ((zb) + 1)))]) rfl rfl ?_
      rw [← zRs_s G T V za zb zs0 (by omega)]
      exact z_ih (zb + 1) (by omega) (by omega)
set_option maxRecDepth 20000 in
set_option maxHeartbeats 4000000 in
theorem jm_looks (zd : Nat) (q_d : 4 ≤ zd) {zh : am_H} {N : Int} {G : Int → Int → Int} {S T : Int} {V : Int → Int} {za zn : Int} (q_nm : zMm (zh.1 55) (zh.1 56) N G S T) (q_g : zGk N G S T) (q_0 : 0 ≤ za ∧ za ≤ zn ∧ zn ≤ N) (q_V : ∀ x : Int, za < x → x ≤ zn → zh.1 60 x.toNat = iN (V x) ∧ 0 ≤ V x ∧ V x ≤ 100000000) : am_wp zd am_m_Model_looks 0 [(0, .ref 55), (1, .int (iN (za))), (2, .int (iN (zn)))] [] (78, 76) zh (78, 76) (fun rv h' => rv = none ∧ zH3 zh za (zRs G T V za (1000000000, (zh.1 61 za.toNat).toInt, (zh.1 62 za.toNat).toInt) (zn - za).toNat) = h') := by
  obtain ⟨zd, rfl⟩ : ∃ y_e, zd = y_e + 4 := ⟨zd - 4, by omega⟩
  have q_N := q_g.1
  refine wp_run (k := 4) (pc1 := 7) (l1 := [(0, .ref 55), (1, .int (iN (za))), (2, .int (iN (zn)))]) (st1 := [.int (iN (1000000000)), .int (iN (za)), .ref 60]) (kr1 := (78, 76)) (h1 := zh) rfl ?_
  refine wp_iast (z := za) (j := za.toNat) (n := 17) rfl (by decide) (by decide) rfl rfl (by omega) (by omega) (by decide) ?_
  refine wp_run (k := 2) (pc1 := 10) (l1 := [(0, .ref 55), (1, .int (iN (za))), (2, .int (iN (zn))), (3, .int (iN (za)))]) (st1 := []) (kr1 := (78, 76)) (h1 := am_wr zh 60 (za.toNat) (iN (1000000000))) rfl ?_
  have y_e : am_wr zh 60 (za.toNat) (iN (1000000000)) = zH3 zh za (zRs G T V za (1000000000, (zh.1 61 za.toNat).toInt, (zh.1 62 za.toNat).toInt) (za - za).toNat) := by
    rw [zH3_0, show (za - za).toNat = 0 by omega]
    rfl
  rw [y_e]
  exact jl_looksB _ (by omega) q_nm q_g q_0 q_V rfl ⟨rfl, rfl⟩ 20 za (by omega) (by omega)
set_option maxRecDepth 20000 in
set_option maxHeartbeats 4000000 in
theorem jl_plans (zd : Nat) (q_d : 5 ≤ zd) {zh : am_H} {N : Int} {G : Int → Int → Int} {S T : Int} {za zn : Int} (q_nm : zMm (zh.1 55) (zh.1 56) N G S T) (q_g : zGk N G S T) (q_0 : 0 ≤ za ∧ za ≤ zn ∧ zn ≤ N) {zQ : Option Value → am_H → Prop} (zk : ∀ zg : am_H, am_fr [60, 61, 62] zh zg → zMrow zg G T zn za → zQ (some (.int (iN (zPv G T zn za).1))) zg) : ∀ (z_n : Nat) (zg : am_H) (zi : Int) (q_f : am_fr [60, 61, 62] zh zg) (q_i : za - 1 ≤ zi ∧ zi ≤ zn) (q_w : zMrow zg G T zn (zi + 1)), zi + 2 - za < (z_n : Int) → am_wp zd am_m_Model_plans 2 [(0, .ref 55), (1, .int (iN (za))), (2, .int (iN (zn))), (3, .int (iN (zi)))] [] (78, 76) zg (78, 76) zQ := by
  obtain ⟨zd, rfl⟩ : ∃ y_e, zd = y_e + 5 := ⟨zd - 5, by omega⟩
  intro z_n
  induction z_n with
  | zero => intro zg zi q_f q_i q_w q_m; omega
  | succ z_n z_ih =>
    intro zg zi q_f q_i q_w q_m
    have q_N := q_g.1
    have y_r : ∀ x : Int, za ≤ x → x ≤ zn → 0 ≤ (zPv G T zn x).1 ∧ (zPv G T zn x).1 ≤ 6000000 ∧ 0 ≤ (zPv G T zn x).2.2 ∧ (zPv G T zn x).2.2 ≤ 9999 := fun x y1 y2 => zPv_rg q_g (by omega) zn.toNat (by omega) x (by omega) y2
    refine wp_run (k := 2) (pc1 := 4) (l1 := [(0, .ref 55), (1, .int (iN (za))), (2, .int (iN (zn))), (3, .int (iN (zi)))]) (st1 := [.int (iN (za)), .int (iN (zi))]) (kr1 := (78, 76)) (h1 := zg) rfl ?_
    refine wp_lt (a := zi) (b := za) rfl (by omega) (by omega) (fun b_4 => ?_) (fun b_4 => ?_)
    · refine wp_run (k := 3) (pc1 := 52) (l1 := [(0, .ref 55), (1, .int (iN (za))), (2, .int (iN (zn))), (3, .int (iN (zi)))]) (st1 := [.int (iN (za)), .ref 60]) (kr1 := (78, 76)) (h1 := zg) rfl ?_
      refine wp_iald (f := zg.1 60) (z := za) (j := za.toNat) (n := 17) (v := iN (zPv G T zn za).1) rfl rfl (by omega) (by omega) (by decide) ((q_w za (by omega) (by omega)).1) ?_
      refine wp_ret (rv := some (.int (iN (zPv G T zn za).1))) rfl ?_
      exact zk zg q_f (fun x y1 y2 => q_w x (by omega) y2)
    · refine wp_run (k := 5) (pc1 := 12) (l1 := [(0, .ref 55), (1, .int (iN (za))), (2, .int (iN (zn))), (3, .int (iN (zi)))]) (st1 := [.int (iN ((zn) - (1))), .int (iN (zi)), .ref 55]) (kr1 := (78, 76)) (h1 := zg) (Eq.trans (b := (some (12, [(0, .ref 55), (1, .int (iN (za))), (2, .int (iN (zn))), (3, .int (iN (zi)))], [.int ((iN (zn)) - (iN (1))), .int (iN (zi)), .ref 55], (78, 76), zg) : Option am_C)) rfl (by simp only [Int32.ofInt_add, Int32.ofInt_sub, Int32.ofInt_mul, Int32.ofInt_neg])) ?_
      refine wp_call (md1 := am_m_Model_demand) (As := [.ref 55, .int (iN (zi)), .int (iN ((zn) - (1)))]) (rest := []) (kr1 := (78, 76)) rfl (jm_demand _ (by omega) (zMm_f q_f q_nm (by decide) (by decide)) q_g (za := zi) (zb := (zn) - (1)) (by omega)) ?_
      rintro _ _ ⟨rfl, rfl⟩
      have y_d := zD_rg q_g (a := zi) (b := zn - 1) (by omega) (by omega) (by omega)
      refine wp_ne0 (a := zD G (zi) ((zn) - (1))) rfl (by omega) (fun b_15 => ?_) (fun b_15 => ?_)
      · refine wp_run (k := 3) (pc1 := 38) (l1 := [(0, .ref 55), (1, .int (iN (za))), (2, .int (iN (zn))), (3, .int (iN (zi)))]) (st1 := [.int (iN (zn)), .int (iN (zi)), .ref 55]) (kr1 := (78, 76)) (h1 := zg) rfl ?_
        refine wp_call (md1 := am_m_Model_looks) (As := [.ref 55, .int (iN (zi)), .int (iN (zn))]) (rest := []) (kr1 := (78, 76)) rfl (jm_looks (V := (fun y => (zPv G T zn y).1)) _ (by omega) (zMm_f q_f q_nm (by decide) (by decide)) q_g (za := zi) (zn := zn) (by omega) (fun x y1 y2 => ⟨(q_w x (by omega) y2).1, (y_r x (by omega) y2).1, by have y3 := (y_r x (by omega) y2).2.1; omega⟩)) ?_
        rintro _ _ ⟨rfl, rfl⟩
        refine wp_run (k := 2) (pc1 := 2) (l1 := [(0, .ref 55), (1, .int (iN (za))), (2, .int (iN (zn))), (3, .int (iN ((zi) + (-1))))]) (st1 := []) (kr1 := (78, 76)) (h1 := zH3 zg zi (zRs G T (fun y => (zPv G T zn y).1) zi (1000000000, (zg.1 61 zi.toNat).toInt, (zg.1 62 zi.toNat).toInt) (zn - zi).toNat)) (Eq.trans (b := (some (2, [(0, .ref 55), (1, .int (iN (za))), (2, .int (iN (zn))), (3, .int ((iN (zi)) + iN (-1)))], [], (78, 76), zH3 zg zi (zRs G T (fun y => (zPv G T zn y).1) zi (1000000000, (zg.1 61 zi.toNat).toInt, (zg.1 62 zi.toNat).toInt) (zn - zi).toNat)) : Option am_C)) rfl (by simp only [Int32.ofInt_add, Int32.ofInt_sub, Int32.ofInt_mul, Int32.ofInt_neg])) ?_
        refine z_ih _ (zi + (-1)) (am_fr_t q_f (zH3_fr _ _ _)) (by omega) ?_ (by omega)
        intro x y1 y2
        by_cases y3 : x = zi
        · subst y3
          have y_p := y_r x (by omega) (by omega)
          have y_s := zPv_ss G T zn x (by omega)
          unfold zPs at y_s
          rw [if_pos (by omega)] at y_s
          have y4 := zRs_e (n := zn) (T := T) (G := G) (V := (fun y => (zPv G T zn y).1)) (W := fun y => (zPv G T zn y).2.2) (a := x) (s0 := (1000000000, (zg.1 61 x.toNat).toInt, (zg.1 62 x.toNat).toInt)) rfl (zn - x).toNat (by omega) (fun y q1 q2 => (y_r y (by omega) q2).1)
          rw [← y_s] at y4
          rw [zH3_1, zH3_2, zH3_3, y4.1, (y4.2.2 (by omega)).1, (y4.2.2 (by omega)).2]
          exact ⟨rfl, fun _ => ⟨rfl, rfl⟩, fun y => by omega⟩
        · rw [(zH3_o zg zi _ (show x.toNat ≠ zi.toNat by omega)).1, (zH3_o zg zi _ (show x.toNat ≠ zi.toNat by omega)).2.1, (zH3_o zg zi _ (show x.toNat ≠ zi.toNat by omega)).2.2]; exact q_w x (by omega) y2
      · refine wp_run (k := 4) (pc1 := 24) (l1 := [(0, .ref 55), (1, .int (iN (za))), (2, .int (iN (zn))), (3, .int (iN (zi)))]) (st1 := [.int (iN (0)), .int (iN (zi)), .ref 60]) (kr1 := (78, 76)) (h1 := zg) rfl ?_
        refine wp_iast (z := zi) (j := zi.toNat) (n := 17) rfl (by decide) (by decide) rfl rfl (by omega) (by omega) (by decide) ?_
        refine wp_run (k := 4) (pc1 := 31) (l1 := [(0, .ref 55), (1, .int (iN (za))), (2, .int (iN (zn))), (3, .int (iN (zi)))]) (st1 := [.int (iN (-1)), .int (iN (zi)), .ref 61]) (kr1 := (78, 76)) (h1 := am_wr zg 60 (zi.toNat) (iN (0))) rfl ?_
        refine wp_iast (z := zi) (j := zi.toNat) (n := 17) rfl (by decide) (by decide) rfl rfl (by omega) (by omega) (by decide) ?_
        refine wp_run (k := 3) (pc1 := 2) (l1 := [(0, .ref 55), (1, .int (iN (za))), (2, .int (iN (zn))), (3, .int (iN ((zi) + (-1))))]) (st1 := []) (kr1 := (78, 76)) (h1 := am_wr (am_wr zg 60 (zi.toNat) (iN (0))) 61 (zi.toNat) (iN (-1))) (Eq.trans (b := (some (2, [(0, .ref 55), (1, .int (iN (za))), (2, .int (iN (zn))), (3, .int ((iN (zi)) + iN (-1)))], [], (78, 76), am_wr (am_wr zg 60 (zi.toNat) (iN (0))) 61 (zi.toNat) (iN (-1))) : Option am_C)) rfl (by simp only [Int32.ofInt_add, Int32.ofInt_sub, Int32.ofInt_mul, Int32.ofInt_neg])) ?_
        refine z_ih _ (zi + (-1)) (am_fr_w (am_fr_w (q_f) (by decide) _ _) (by decide) _ _) (by omega) ?_ (by omega)
        intro x y1 y2
        rw [am_wr_ne (show 60 ≠ 61 by decide), am_wr_ne (show 62 ≠ 61 by decide), am_wr_ne (show 62 ≠ 60 by decide)]
        by_cases y3 : x = zi
        · subst y3
          have y_s := zPv_ss G T zn x (by omega)
          unfold zPs at y_s
          rw [if_neg (by omega)] at y_s
          rw [am_wr_at, am_wr_at, y_s]
          exact ⟨rfl, fun y => by omega, fun _ => rfl⟩
        · rw [am_wr_no (by omega), am_wr_no (by omega), am_wr_ne (show 61 ≠ 60 by decide)]; exact q_w x (by omega) y2
set_option maxRecDepth 20000 in
set_option maxHeartbeats 4000000 in
theorem jm_plans (zd : Nat) (q_d : 5 ≤ zd) {zh : am_H} {N : Int} {G : Int → Int → Int} {S T : Int} {za zn : Int} (q_nm : zMm (zh.1 55) (zh.1 56) N G S T) (q_g : zGk N G S T) (q_0 : 0 ≤ za ∧ za ≤ zn ∧ zn ≤ N) : am_wp zd am_m_Model_plans 0 [(0, .ref 55), (1, .int (iN (za))), (2, .int (iN (zn)))] [] (78, 76) zh (78, 76) (fun rv h' => rv = some (.int (iN (zPv G T zn za).1)) ∧ am_fr [60, 61, 62] zh h' ∧ zMrow h' G T zn za) := by
  obtain ⟨zd, rfl⟩ : ∃ y_e, zd = y_e + 5 := ⟨zd - 5, by omega⟩
  have q_N := q_g.1
  refine wp_run (k := 2) (pc1 := 2) (l1 := [(0, .ref 55), (1, .int (iN (za))), (2, .int (iN (zn))), (3, .int (iN (zn)))]) (st1 := []) (kr1 := (78, 76)) (h1 := zh) rfl ?_
  exact jl_plans _ (by omega) q_nm q_g q_0 (fun zg y1 y2 => ⟨rfl, y1, y2⟩) 20 zh zn (am_fr_0 _ _) (by omega) (fun x y1 y2 => by omega) (by omega)
