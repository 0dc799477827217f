/-! THE PLAN: its lots -/
theorem zBs_ok {G : Int → Int → Int} {T n : Int} {V W : Int → Int} {a : Int} : ∀ k : Nat, (zBs G T n V W a k).1 < 1000000000 → a ≤ (zBs G T n V W a k).2.1 ∧ (zBs G T n V W a k).2.1 < a + k ∧ zLc G T a (zBs G T n V W a k).2.1 ((zBs G T n V W a k).2.1 + 1 - a).toNat < 1000000000 := by
  intro k
  induction k with
  | zero => intro q; exact absurd q (by show ¬ (1000000000 : Int) < 1000000000; decide)
  | succ k z_ih =>
    intro q
    have e1 : zBs G T n V W a (k + 1) = zBt (zBs G T n V W a k) (a + k) (zLc G T a (a + k) (k + 1)) (V (a + k + 1)) (zLw G T a (a + k) (k + 1)) (W (a + k + 1)) := rfl
    rw [e1] at q ⊢
    unfold zBt at q ⊢
    by_cases y1 : 1000000000 ≤ zLc G T a (a + k) (k + 1)
    · rw [if_pos y1] at q ⊢
      have y2 := z_ih q
      exact ⟨y2.1, by omega, y2.2.2⟩
    · rw [if_neg y1] at q ⊢
      by_cases y3 : zLc G T a (a + k) (k + 1) + V (a + k + 1) < (zBs G T n V W a k).1
      · rw [if_pos y3] at q ⊢
        refine ⟨by show a ≤ a + (k : Int); omega, by show a + (k : Int) < a + ((k + 1 : Nat) : Int); omega, ?_⟩
        show zLc G T a (a + k) (a + (k : Int) + 1 - a).toNat < 1000000000
        rw [show (a + (k : Int) + 1 - a).toNat = k + 1 by omega]
        omega
      · rw [if_neg y3] at q ⊢
        by_cases y4 : zLc G T a (a + k) (k + 1) + V (a + k + 1) = (zBs G T n V W a k).1
        · rw [if_pos y4] at q ⊢
          have y2 := z_ih q
          exact ⟨y2.1, by have := y2.2.1; show (zBs G T n V W a k).2.1 < _; omega, y2.2.2⟩
        · rw [if_neg y4] at q ⊢
          have y2 := z_ih q
          exact ⟨y2.1, by omega, y2.2.2⟩
theorem zLm_rg {G : Int → Int → Int} {T a b : Int} : ∀ k : Nat, zLc G T a b k < 1000000000 → a ≤ zLm G T a b k ∧ zLm G T a b k < a + k := by
  intro k
  induction k with
  | zero => intro q; exact absurd q (by show ¬ (1000000000 : Int) < 1000000000; decide)
  | succ k z_ih =>
    intro q
    have e1 : zLc G T a b (k + 1) = if zIsL G T a b (a + k) ∧ zCo G a b (a + k) < zLc G T a b k then zCo G a b (a + k) else zLc G T a b k := rfl
    have e2 : zLm G T a b (k + 1) = if zIsL G T a b (a + k) ∧ zCo G a b (a + k) < zLc G T a b k then a + k else zLm G T a b k := rfl
    rw [e1] at q
    rw [e2]
    by_cases y1 : zIsL G T a b (a + k) ∧ zCo G a b (a + k) < zLc G T a b k
    · rw [if_pos y1]; omega
    · rw [if_neg y1] at q ⊢
      have y2 := z_ih q
      omega
theorem zPv_ok {N : Int} {G : Int → Int → Int} {S T : Int} (q_g : zGk N G S T) {n x : Int} (q_n : n ≤ N) (q_x : 0 ≤ x) (q_d : 0 < zD G x (n - 1)) (q_y : x < n) : x ≤ (zPv G T n x).2.1 ∧ (zPv G T n x).2.1 < n ∧ zLc G T x (zPv G T n x).2.1 ((zPv G T n x).2.1 + 1 - x).toNat < 1000000000 := by
  have y1 := zPv_rg q_g (T := T) q_n n.toNat (by omega) x (by omega) (by omega)
  rw [zPv_s G T n x q_y] at y1 ⊢
  unfold zPs at y1 ⊢
  rw [if_pos q_d] at y1 ⊢
  have y2 := zBs_ok (G := G) (T := T) (n := n) (V := fun y => (zPv G T n y).1) (W := fun y => (zPv G T n y).2.2) (a := x) (n - x).toNat (by omega)
  exact ⟨y2.1, by have := y2.2.1; omega, y2.2.2⟩
/-- where the k-th lot of the plan begins -/
def zLa (G : Int → Int → Int) (T N : Int) : Nat → Int
  | 0 => 0
  | k + 1 => (zPv G T N (zLa G T N k)).2.1 + 1
/-- where it ends -/
def zLb (G : Int → Int → Int) (T N : Int) (k : Nat) : Int := (zPv G T N (zLa G T N k)).2.1
abbrev zLq (G : Int → Int → Int) (T N : Int) (k : Nat) : Prop := zLa G T N k < N ∧ 0 < zD G (zLa G T N k) (N - 1)
/-- the plan has K lots -/
def zIsN (G : Int → Int → Int) (T N : Int) (K : Nat) : Prop := (∀ j : Nat, j < K → zLq G T N j) ∧ ¬ zLq G T N K
theorem zIsN_u {G : Int → Int → Int} {T N : Int} {K K' : Nat} (q : zIsN G T N K) (q' : zIsN G T N K') : K = K' := by
  rcases Nat.lt_trichotomy K K' with y | y | y
  · exact absurd (q'.1 K y) q.2
  · exact y
  · exact absurd (q.1 K' y) q'.2
/-- where it is made -/
def zMk (G : Int → Int → Int) (T N : Int) (k : Nat) : Int := zLm G T (zLa G T N k) (zLb G T N k) (zLb G T N k + 1 - zLa G T N k).toNat
/-- what k lots make -/
def zMd (G : Int → Int → Int) (T N : Int) : Nat → Int → Int
  | 0 => fun _ => 0
  | k + 1 => fun p => if p = zMk G T N k then zD G (zLa G T N k) (zLb G T N k) else zMd G T N k p
section LT
variable {N : Int} {G : Int → Int → Int} {S T : Int}
theorem zLa_rg (q_g : zGk N G S T) : ∀ k : Nat, (∀ j : Nat, j < k → zLq G T N j) → (k : Int) ≤ zLa G T N k ∧ zLa G T N k ≤ N := by
  intro k
  induction k with
  | zero => intro _; have y := q_g.1; exact ⟨by show (0 : Int) ≤ 0; omega, by show (0 : Int) ≤ N; omega⟩
  | succ k z_ih =>
    intro q
    have y1 := z_ih (fun j y => q j (by omega))
    have y2 := q k (by omega)
    have y3 := zPv_ok q_g (n := N) (x := zLa G T N k) (by omega) (by omega) y2.2 y2.1
    show ((k + 1 : Nat) : Int) ≤ (zPv G T N (zLa G T N k)).2.1 + 1 ∧ (zPv G T N (zLa G T N k)).2.1 + 1 ≤ N
    omega
theorem zLb_rg (q_g : zGk N G S T) {k : Nat} (q : ∀ j : Nat, j < k → zLq G T N j) (q_k : zLq G T N k) : 0 ≤ zLa G T N k ∧ zLa G T N k ≤ zLb G T N k ∧ zLb G T N k < N ∧ zLc G T (zLa G T N k) (zLb G T N k) (zLb G T N k + 1 - zLa G T N k).toNat < 1000000000 ∧ zLa G T N k ≤ zMk G T N k ∧ zMk G T N k ≤ zLb G T N k := by
  have y1 := zLa_rg q_g k q
  have y3 := zPv_ok q_g (n := N) (x := zLa G T N k) (by omega) (by omega) q_k.2 q_k.1
  have y4 := zLm_rg _ y3.2.2
  unfold zMk
  unfold zLb at *
  omega
theorem zIsN_le (q_g : zGk N G S T) {K : Nat} (q : zIsN G T N K) : (K : Int) ≤ N := by
  have y1 := zLa_rg q_g K q.1
  omega
theorem zMd_hk (q_g : zGk N G S T) : ∀ k : Nat, (∀ j : Nat, j < k → zLq G T N j) → zHk N (zMd G T N k) := by
  intro k
  induction k with
  | zero => intro _; exact ⟨fun p _ _ => ⟨Int.le_refl _, by show (0 : Int) ≤ 1584; decide⟩, fun p _ => rfl⟩
  | succ k z_ih =>
    intro q
    have y1 := z_ih (fun j y => q j (by omega))
    have y2 := zLb_rg q_g (fun j y => q j (by omega)) (q k (by omega))
    have y3 := zD_rg q_g (a := zLa G T N k) (b := zLb G T N k) (by omega) (by omega) (by omega)
    refine ⟨fun p q1 q2 => ?_, fun p q1 => ?_⟩
    · show 0 ≤ (if p = zMk G T N k then zD G (zLa G T N k) (zLb G T N k) else zMd G T N k p) ∧ (if p = zMk G T N k then zD G (zLa G T N k) (zLb G T N k) else zMd G T N k p) ≤ 1584
      split
      · exact y3
      · exact y1.1 p q1 q2
    · show (if p = zMk G T N k then zD G (zLa G T N k) (zLb G T N k) else zMd G T N k p) = 0
      rw [if_neg (by omega)]
      exact y1.2 p q1
end LT
/-- the plan's lots lie there, what is made, what is there -/
def zTook (Pn cA1 cB1 cMd cSt : Nat) (zg : am_H) (N : Int) (G : Int → Int → Int) (T : Int) : Prop := ∃ K : Nat, zIsN G T N K ∧ zg.1 Pn 11 = iN (K : Int) ∧ (∀ j : Nat, j < K → zg.1 cA1 j = iN (zLa G T N j) ∧ zg.1 cB1 j = iN (zLb G T N j)) ∧ zHd (zg.1 cMd) (zMd G T N K) 16 ∧ ∀ x : Int, 0 ≤ x → x < N → zg.1 cSt x.toNat = iN (zSt G (zMd G T N K) x)
set_option maxRecDepth 20000 in
set_option maxHeartbeats 4000000 in
theorem jl_tlots_3 (zd : Nat) (q_d : 2 ≤ zd) {zh : am_H} {N : Int} {G : Int → Int → Int} {S T : Int} (q_g : zGk N G S T) (q_lo : zLots 5 6 7 8 zh N G T) (q_row : zRow 9 10 11 zh G T N 0) {zQ : Option Value → am_H → Prop} (zk : ∀ (zg : am_H) (zj : Nat), am_fr [3, 14, 15, 16] zh zg → (∀ zs : Nat, zs ≠ 11 → zg.1 3 zs = zh.1 3 zs) → zIsN G T N zj → zg.1 3 11 = iN (zj : Int) → (∀ j : Nat, j < zj → zg.1 14 j = iN (zLa G T N j) ∧ zg.1 15 j = iN (zLb G T N j)) → zHd (zg.1 16) (zMd G T N zj) 16 → am_wp zd am_m_Plan_takeLots 148 [(0, .ref 3), (1, .ref 1), (2, .int (iN (N))), (3, .int (iN (zLa G T N zj)))] [] (78, 76) zg (78, 76) zQ) : ∀ (z_n : Nat) (zg : am_H) (zj : Nat) (q_f : am_fr [3, 14, 15, 16] zh zg) (q_sl : ∀ zs : Nat, zs ≠ 11 → zg.1 3 zs = zh.1 3 zs) (q_lq : ∀ j : Nat, j < zj → zLq G T N j) (q_la : zLa G T N zj ≤ N) (q_cn : zg.1 3 11 = iN (zj : Int)) (q_rw : ∀ j : Nat, j < zj → zg.1 14 j = iN (zLa G T N j) ∧ zg.1 15 j = iN (zLb G T N j)) (q_md : zHd (zg.1 16) (zMd G T N zj) 16), N - zLa G T N zj < (z_n : Int) → am_wp zd am_m_Plan_takeLots 36 [(0, .ref 3), (1, .ref 1), (2, .int (iN (N))), (3, .int (iN (zLa G T N zj)))] [] (78, 76) zg (78, 76) zQ := by
  obtain ⟨zd, rfl⟩ : ∃ y_e, zd = y_e + 2 := ⟨zd - 2, by omega⟩
  intro z_n
  induction z_n with
  | zero => intro zg zj q_f q_sl q_lq q_la q_cn q_rw q_md q_m; omega
  | succ z_n z_ih =>
    intro zg zj q_f q_sl q_lq q_la q_cn q_rw q_md q_m
    have q_N := q_g.1
    have y_a := zLa_rg q_g zj q_lq
    refine wp_run (k := 2) (pc1 := 38) (l1 := [(0, .ref 3), (1, .ref 1), (2, .int (iN (N))), (3, .int (iN (zLa G T N zj)))]) (st1 := [.int (iN (N)), .int (iN (zLa G T N zj))]) (kr1 := (78, 76)) (h1 := zg) rfl ?_
    refine wp_ge (a := zLa G T N zj) (b := N) rfl (by omega) (by omega) (fun b_38 => ?_) (fun b_38 => ?_)
    · exact zk zg zj q_f q_sl ⟨q_lq, fun y => by have y1 := y.1; have y2 := y.2; omega⟩ q_cn q_rw q_md
    · have y_d := zD_rg q_g (a := zLa G T N zj) (b := N - 1) (by omega) (by omega) (by omega)
      refine wp_run (k := 3) (pc1 := 47) (l1 := [(0, .ref 3), (1, .ref 1), (2, .int (iN (N))), (3, .int (iN (zLa G T N zj)))]) (st1 := [.int (iN (16)), .int (iN ((zj : Int)))]) (kr1 := (78, 76)) (h1 := zg) (Eq.trans (b := (some (47, [(0, .ref 3), (1, .ref 1), (2, .int (iN (N))), (3, .int (iN (zLa G T N zj)))], [.int (iN (16)), .int (zg.1 3 11)], (78, 76), zg) : Option am_C)) rfl (by simp only [(show (zg).1 3 11 = iN (zj : Int) from q_cn), Int32.ofInt_add, Int32.ofInt_sub, Int32.ofInt_mul, Int32.ofInt_neg])) ?_
      refine wp_ge (a := (zj : Int)) (b := 16) rfl (by omega) (by omega) (fun b_47 => ?_) (fun b_47 => ?_)
      · exact zk zg zj q_f q_sl ⟨q_lq, fun y => by have y1 := y.1; have y2 := y.2; omega⟩ q_cn q_rw q_md
      · refine wp_run (k := 6) (pc1 := 58) (l1 := [(0, .ref 3), (1, .ref 1), (2, .int (iN (N))), (3, .int (iN (zLa G T N zj)))]) (st1 := [.int (iN ((N) - (1))), .int (iN (zLa G T N zj)), .ref 4]) (kr1 := (78, 76)) (h1 := zg) (Eq.trans (b := (some (58, [(0, .ref 3), (1, .ref 1), (2, .int (iN (N))), (3, .int (iN (zLa G T N zj)))], [.int ((iN (N)) - (iN (1))), .int (iN (zLa G T N zj)), .ref 4], (78, 76), zg) : Option am_C)) rfl (by simp only [Int32.ofInt_add, Int32.ofInt_sub, Int32.ofInt_mul, Int32.ofInt_neg])) ?_
        refine wp_call (md1 := am_m_Lots_pieces) (As := [.ref 4, .int (iN (zLa G T N zj)), .int (iN ((N) - (1)))]) (rest := []) (kr1 := (78, 76)) rfl (jt_lpieces_4 _ (by omega) (zLots_f (q_f) (by decide) (by decide) (by decide) (by decide) q_lo).1 q_N.2 (za := zLa G T N zj) (zb := (N) - (1)) (by omega)) ?_
        rintro _ _ ⟨rfl, rfl⟩
        refine wp_le0 (a := zD G (zLa G T N zj) ((N) - (1))) rfl (by omega) (fun b_61 => ?_) (fun b_61 => ?_)
        · exact zk zg zj q_f q_sl ⟨q_lq, fun y => by have y1 := y.1; have y2 := y.2; omega⟩ q_cn q_rw q_md
        · have y_b := zLb_rg q_g q_lq ⟨by omega, by omega⟩
          have y_z := zD_rg q_g (a := zLa G T N zj) (b := zLb G T N zj) (by omega) (by omega) (by omega)
          refine wp_run (k := 4) (pc1 := 70) (l1 := [(0, .ref 3), (1, .ref 1), (2, .int (iN (N))), (3, .int (iN (zLa G T N zj)))]) (st1 := [.int (iN (zLa G T N zj)), .ref 10, .int (iN (zLa G T N zj))]) (kr1 := (78, 76)) (h1 := zg) rfl ?_
          refine wp_call (md1 := am_m_Lp_at) (As := [.ref 10, .int (iN (zLa G T N zj))]) (rest := [.int (iN (zLa G T N zj))]) (kr1 := (78, 76)) rfl (jt_at _ (by omega) (zn := 17) (zi := zLa G T N zj) (zv := iN (zLb G T N zj)) rfl rfl (by decide) (by omega) (by omega) ((congrFun (q_f.2 10 (by decide)) _).trans (q_row (zLa G T N zj) (by omega) (by omega)).2.1)) ?_
          rintro _ _ ⟨rfl, rfl⟩
          refine wp_now (rest := [.int (if iN (zLa G T N zj) < iN (zLb G T N zj) then iN (zLb G T N zj) else iN (zLa G T N zj))]) rfl ?_
          rw [show (if iN (zLa G T N zj) < iN (zLb G T N zj) then iN (zLb G T N zj) else iN (zLa G T N zj)) = iN (max (zLa G T N zj) (zLb G T N zj)) from iN_max (by omega) (by omega)]
          rw [show max (zLa G T N zj) (zLb G T N zj) = zLb G T N zj by omega]
          refine wp_run (k := 6) (pc1 := 87) (l1 := [(0, .ref 3), (1, .ref 1), (2, .int (iN (N))), (3, .int (iN (zLa G T N zj))), (4, .int (iN (zLb G T N zj)))]) (st1 := [.int (iN (zLa G T N zj)), .int (iN ((zj : Int))), .ref 14]) (kr1 := (78, 76)) (h1 := zg) (Eq.trans (b := (some (87, [(0, .ref 3), (1, .ref 1), (2, .int (iN (N))), (3, .int (iN (zLa G T N zj))), (4, .int (iN (zLb G T N zj)))], [.int (iN (zLa G T N zj)), .int (zg.1 3 11), .ref 14], (78, 76), zg) : Option am_C)) rfl (by simp only [(show (zg).1 3 11 = iN (zj : Int) from q_cn), Int32.ofInt_add, Int32.ofInt_sub, Int32.ofInt_mul, Int32.ofInt_neg])) ?_
          refine wp_call (md1 := am_m_Lp_lay) (As := [.ref 14, .int (iN ((zj : Int))), .int (iN (zLa G T N zj))]) (rest := []) (kr1 := (78, 76)) rfl (jt_lay _ (by omega) (zn := 16) (zi := (zj : Int)) (zv := iN (zLa G T N zj)) (by decide) (by decide) rfl rfl rfl (by decide) (by omega) (by omega)) ?_
          rintro _ _ ⟨rfl, rfl⟩
          refine wp_run (k := 5) (pc1 := 100) (l1 := [(0, .ref 3), (1, .ref 1), (2, .int (iN (N))), (3, .int (iN (zLa G T N zj))), (4, .int (iN (zLb G T N zj)))]) (st1 := [.int (iN (zLb G T N zj)), .int (iN ((zj : Int))), .ref 15]) (kr1 := (78, 76)) (h1 := am_wr zg 14 ((zj : Int) : Int).toNat (iN (zLa G T N zj))) (Eq.trans (b := (some (100, [(0, .ref 3), (1, .ref 1), (2, .int (iN (N))), (3, .int (iN (zLa G T N zj))), (4, .int (iN (zLb G T N zj)))], [.int (iN (zLb G T N zj)), .int ((am_wr zg 14 ((zj : Int) : Int).toNat (iN (zLa G T N zj))).1 3 11), .ref 15], (78, 76), am_wr zg 14 ((zj : Int) : Int).toNat (iN (zLa G T N zj))) : Option am_C)) rfl (by simp only [(show (am_wr zg 14 ((zj : Int) : Int).toNat (iN (zLa G T N zj))).1 3 11 = iN (zj : Int) from (congrFun (am_wr_ne (by decide)) _).trans (q_cn))]; try simp only [Int32.ofInt_add, Int32.ofInt_sub, Int32.ofInt_mul, Int32.ofInt_neg])) ?_
          refine wp_call (md1 := am_m_Lp_lay) (As := [.ref 15, .int (iN ((zj : Int))), .int (iN (zLb G T N zj))]) (rest := []) (kr1 := (78, 76)) rfl (jt_lay _ (by omega) (zn := 16) (zi := (zj : Int)) (zv := iN (zLb G T N zj)) (by decide) (by decide) rfl rfl rfl (by decide) (by omega) (by omega)) ?_
          rintro _ _ ⟨rfl, rfl⟩
          refine wp_run (k := 6) (pc1 := 114) (l1 := [(0, .ref 3), (1, .ref 1), (2, .int (iN (N))), (3, .int (iN (zLa G T N zj))), (4, .int (iN (zLb G T N zj)))]) (st1 := [.int (iN (zLb G T N zj)), .int (iN (zLa G T N zj)), .ref 4, .ref 16]) (kr1 := (78, 76)) (h1 := am_wr (am_wr zg 14 ((zj : Int) : Int).toNat (iN (zLa G T N zj))) 15 ((zj : Int) : Int).toNat (iN (zLb G T N zj))) rfl ?_
          refine wp_call (md1 := am_m_Lots_makerOf) (As := [.ref 4, .int (iN (zLa G T N zj)), .int (iN (zLb G T N zj))]) (rest := [.ref 16]) (kr1 := (78, 76)) rfl (jt_makerOf_4 _ (by omega) (za := zLa G T N zj) (zb := zLb G T N zj) (by omega) ((congrFun ((am_fr_w (am_fr_w (q_f) (by decide) _ _) (by decide) _ _ : am_fr _ _ _).2 6 (by decide)) _).trans ((q_lo.2 (zLa G T N zj) (zLb G T N zj) (by omega) (by omega) (by omega)).2 y_b.2.2.2.1).1)) ?_
          rintro _ _ ⟨rfl, rfl⟩
          refine wp_run (k := 4) (pc1 := 124) (l1 := [(0, .ref 3), (1, .ref 1), (2, .int (iN (N))), (3, .int (iN (zLa G T N zj))), (4, .int (iN (zLb G T N zj)))]) (st1 := [.int (iN (zLb G T N zj)), .int (iN (zLa G T N zj)), .ref 4, .int (iN (zMk G T N zj)), .ref 16]) (kr1 := (78, 76)) (h1 := am_wr (am_wr zg 14 ((zj : Int) : Int).toNat (iN (zLa G T N zj))) 15 ((zj : Int) : Int).toNat (iN (zLb G T N zj))) rfl ?_
          refine wp_call (md1 := am_m_Lots_pieces) (As := [.ref 4, .int (iN (zLa G T N zj)), .int (iN (zLb G T N zj))]) (rest := [.int (iN (zMk G T N zj)), .ref 16]) (kr1 := (78, 76)) rfl (jt_lpieces_4 _ (by omega) (zLots_f (am_fr_w (am_fr_w (q_f) (by decide) _ _) (by decide) _ _) (by decide) (by decide) (by decide) (by decide) q_lo).1 q_N.2 (za := zLa G T N zj) (zb := zLb G T N zj) (by omega)) ?_
          rintro _ _ ⟨rfl, rfl⟩
          refine wp_call (md1 := am_m_Lp_lay) (As := [.ref 16, .int (iN (zMk G T N zj)), .int (iN (zD G (zLa G T N zj) (zLb G T N zj)))]) (rest := []) (kr1 := (78, 76)) rfl (jt_lay _ (by omega) (zn := 16) (zi := zMk G T N zj) (zv := iN (zD G (zLa G T N zj) (zLb G T N zj))) (by decide) (by decide) rfl rfl rfl (by decide) (by omega) (by omega)) ?_
          rintro _ _ ⟨rfl, rfl⟩
          refine wp_run (k := 5) (pc1 := 137) (l1 := [(0, .ref 3), (1, .ref 1), (2, .int (iN (N))), (3, .int (iN (zLa G T N zj))), (4, .int (iN (zLb G T N zj)))]) (st1 := [.int (iN (((zj : Int)) + (1))), .ref 3]) (kr1 := (78, 76)) (h1 := am_wr (am_wr (am_wr zg 14 ((zj : Int) : Int).toNat (iN (zLa G T N zj))) 15 ((zj : Int) : Int).toNat (iN (zLb G T N zj))) 16 (zMk G T N zj : Int).toNat (iN (zD G (zLa G T N zj) (zLb G T N zj)))) (Eq.trans (b := (some (137, [(0, .ref 3), (1, .ref 1), (2, .int (iN (N))), (3, .int (iN (zLa G T N zj))), (4, .int (iN (zLb G T N zj)))], [.int (((am_wr (am_wr (am_wr zg 14 ((zj : Int) : Int).toNat (iN (zLa G T N zj))) 15 ((zj : Int) : Int).toNat (iN (zLb G T N zj))) 16 (zMk G T N zj : Int).toNat (iN (zD G (zLa G T N zj) (zLb G T N zj)))).1 3 11) + (iN (1))), .ref 3], (78, 76), am_wr (am_wr (am_wr zg 14 ((zj : Int) : Int).toNat (iN (zLa G T N zj))) 15 ((zj : Int) : Int).toNat (iN (zLb G T N zj))) 16 (zMk G T N zj : Int).toNat (iN (zD G (zLa G T N zj) (zLb G T N zj)))) : Option am_C)) rfl (by simp only [(show (am_wr (am_wr (am_wr zg 14 ((zj : Int) : Int).toNat (iN (zLa G T N zj))) 15 ((zj : Int) : Int).toNat (iN (zLb G T N zj))) 16 (zMk G T N zj : Int).toNat (iN (zD G (zLa G T N zj) (zLb G T N zj)))).1 3 11 = iN (zj : Int) from (congrFun (am_wr_ne (by decide)) _).trans ((congrFun (am_wr_ne (by decide)) _).trans ((congrFun (am_wr_ne (by decide)) _).trans (q_cn))))]; try simp only [Int32.ofInt_add, Int32.ofInt_sub, Int32.ofInt_mul, Int32.ofInt_neg])) ?_
          refine wp_run (k := 6) (pc1 := 36) (l1 := [(0, .ref 3), (1, .ref 1), (2, .int (iN (N))), (3, .int (iN ((zLb G T N zj) + (1)))), (4, .int (iN (zLb G T N zj)))]) (st1 := []) (kr1 := (78, 76)) (h1 := am_wr (am_wr (am_wr (am_wr zg 14 ((zj : Int) : Int).toNat (iN (zLa G T N zj))) 15 ((zj : Int) : Int).toNat (iN (zLb G T N zj))) 16 (zMk G T N zj : Int).toNat (iN (zD G (zLa G T N zj) (zLb G T N zj)))) 3 11 (iN (((zj : Int)) + (1)))) (Eq.trans (b := (some (36, [(0, .ref 3), (1, .ref 1), (2, .int (iN (N))), (3, .int ((iN (zLb G T N zj)) + (iN (1)))), (4, .int (iN (zLb G T N zj)))], [], (78, 76), am_wr (am_wr (am_wr (am_wr zg 14 ((zj : Int) : Int).toNat (iN (zLa G T N zj))) 15 ((zj : Int) : Int).toNat (iN (zLb G T N zj))) 16 (zMk G T N zj : Int).toNat (iN (zD G (zLa G T N zj) (zLb G T N zj)))) 3 11 (iN (((zj : Int)) + (1)))) : Option am_C)) rfl (by simp only [Int32.ofInt_add, Int32.ofInt_sub, Int32.ofInt_mul, Int32.ofInt_neg])) ?_
          refine wp_drop [4] (l := [(0, .ref 3), (1, .ref 1), (2, .int (iN (N))), (3, .int (iN ((zLb G T N zj) + (1))))]) rfl rfl ?_
          refine z_ih (am_wr (am_wr (am_wr (am_wr zg 14 ((zj : Int) : Int).toNat (iN (zLa G T N zj))) 15 ((zj : Int) : Int).toNat (iN (zLb G T N zj))) 16 (zMk G T N zj : Int).toNat (iN (zD G (zLa G T N zj) (zLb G T N zj)))) 3 11 (iN (((zj : Int)) + (1)))) (zj + 1) (am_fr_w (am_fr_w (am_fr_w (am_fr_w (q_f) (by decide) _ _) (by decide) _ _) (by decide) _ _) (by decide) _ _) ?_ ?_ (by show zLb G T N zj + 1 ≤ N; omega) ?_ ?_ ?_ ?_
          · intro zs y1; rw [am_wr_no y1, am_wr_ne (by decide), am_wr_ne (by decide), am_wr_ne (by decide)]; exact q_sl zs y1
          · intro j y1
            by_cases y2 : j = zj
            · rw [y2]; exact ⟨by omega, by omega⟩
            · exact q_lq j (by omega)
          · rw [am_wr_at]; rfl
          · intro j y1
            rw [am_wr_ne (by decide), am_wr_ne (by decide), am_wr_ne (show 14 ≠ 15 by decide), am_wr_ne (show 15 ≠ 3 by decide), am_wr_ne (show 15 ≠ 16 by decide)]
            by_cases y2 : j = zj
            · subst y2; rw [show ((j : Int) : Int).toNat = j by omega, am_wr_at, am_wr_at]; exact ⟨rfl, rfl⟩
            · rw [am_wr_no (by omega), am_wr_no (by omega), am_wr_ne (show 15 ≠ 14 by decide)]; exact q_rw j (by omega)
          · intro p y1 y2
            rw [am_wr_ne (by decide)]
            show _ = iN (if p = zMk G T N zj then zD G (zLa G T N zj) (zLb G T N zj) else zMd G T N zj p)
            by_cases y3 : p = zMk G T N zj
            · rw [if_pos y3, y3, am_wr_at]
            · rw [if_neg y3, am_wr_no (by omega), am_wr_ne (by decide), am_wr_ne (by decide)]; exact q_md p y1 y2
          · show N - (zLb G T N zj + 1) < _; omega
set_option maxRecDepth 20000 in
set_option maxHeartbeats 4000000 in
theorem jt_take_3 (zd : Nat) (q_d : 3 ≤ zd) {zh : am_H} {N : Int} {G : Int → Int → Int} {S T : Int} (q_nm : zNm (zh.1 1) (zh.1 2) N G S T) (q_g : zGk N G S T) (q_lo : zLots 5 6 7 8 zh N G T) (q_row : zRow 9 10 11 zh G T N 0) : am_wp zd am_m_Plan_takeLots 0 [(0, .ref 3), (1, .ref 1)] [] (78, 76) zh (78, 76) (fun rv h' => rv = none ∧ am_fr [3, 14, 15, 16, 17] zh h' ∧ (∀ zs : Nat, zs ≠ 11 → h'.1 3 zs = zh.1 3 zs) ∧ zTook 3 14 15 16 17 h' N G T) := by
  obtain ⟨zd, rfl⟩ : ∃ y_e, zd = y_e + 3 := ⟨zd - 3, by omega⟩
  have q_N := q_g.1
  refine wp_run (k := 1) (pc1 := 1) (l1 := [(0, .ref 3), (1, .ref 1)]) (st1 := [.ref 1]) (kr1 := (78, 76)) (h1 := zh) rfl ?_
  refine wp_call (md1 := am_m_Numbers_size) (As := [.ref 1]) (rest := []) (kr1 := (78, 76)) rfl (jt_size_1 _ (by omega) q_nm q_g) ?_
  rintro _ _ ⟨rfl, rfl⟩
  refine wp_run (k := 3) (pc1 := 7) (l1 := [(0, .ref 3), (1, .ref 1), (2, .int (iN (N))), (3, .int (iN (0)))]) (st1 := []) (kr1 := (78, 76)) (h1 := zh) rfl ?_
  refine jl_tzero_3 (zh := zh) (N := N) _ (by omega) ?_ 17 zh 0 (am_fr_0 _ _) (by omega) (fun k y1 y2 => by omega) (by omega)
  intro zg q_f q_w
  refine wp_run (k := 5) (pc1 := 36) (l1 := [(0, .ref 3), (1, .ref 1), (2, .int (iN (N))), (3, .int (iN (0)))]) (st1 := []) (kr1 := (78, 76)) (h1 := am_wr zg 3 11 (iN (0))) rfl ?_
  have q_f0 : am_fr [3, 14, 15, 16] zh (am_wr zg 3 11 (iN (0))) := am_fr_w (am_fr_m q_f (fun c y => by simp only [List.mem_cons, List.not_mem_nil, or_false] at y ⊢; omega)) (by decide) _ _
  refine jl_tlots_3 (zh := zh) (S := S) (T := T) _ (by omega) q_g q_lo q_row ?_ 17 (am_wr zg 3 11 (iN (0))) 0 q_f0 ?_ (fun j y1 => by omega) (by show (0 : Int) ≤ N; omega) (by rw [am_wr_at]; rfl) (fun j y1 => by omega) ?_ (by show N - 0 < _; omega)
  rotate_left
  · intro zs y1; rw [am_wr_no y1, q_f.2 3 (by decide)]
  · intro p y1 y2; rw [am_wr_ne (by decide)]; exact q_w p y1 y2
  intro zg1 zj q_f1 q_sl1 q_n1 q_cn1 q_rw1 q_md1
  refine wp_run (k := 4) (pc1 := 154) (l1 := [(0, .ref 3), (1, .ref 1), (2, .int (iN (N))), (3, .int (iN (zLa G T N zj))), (4, .int (iN (0))), (5, .int (iN (0)))]) (st1 := []) (kr1 := (78, 76)) (h1 := zg1) rfl ?_
  refine jl_tstock_3 (zh := zg1) (N := N) (G := G) (S := S) (T := T) (B := zMd G T N zj) _ (by omega) (zNm_f q_f1 q_nm (by decide) (by decide)) q_g q_md1 ?_ 17 zg1 0 0 (am_fr_0 _ _) (by omega) rfl (fun x y1 y2 => by omega) (by omega)
  intro zg2 q_f2 q_w2
  refine ⟨rfl, am_fr_t (am_fr_m q_f1 (fun c y => by simp only [List.mem_cons, List.not_mem_nil, or_false] at y ⊢; omega)) (am_fr_m q_f2 (fun c y => by simp only [List.mem_cons, List.not_mem_nil, or_false] at y ⊢; omega)), ?_, zj, q_n1, ?_, ?_, ?_, q_w2⟩
  · intro zs y1; rw [q_f2.2 3 (by decide)]; exact q_sl1 zs y1
  · rw [q_f2.2 3 (by decide)]; exact q_cn1
  · intro j y1; rw [q_f2.2 14 (by decide), q_f2.2 15 (by decide)]; exact q_rw1 j y1
  · rw [q_f2.2 16 (by decide)]; exact q_md1
set_option maxRecDepth 20000 in
set_option maxHeartbeats 4000000 in
theorem jl_tlots_36 (zd : Nat) (q_d : 2 ≤ zd) {zh : am_H} {N : Int} {G : Int → Int → Int} {S T : Int} (q_g : zGk N G S T) (q_lo : zLots 38 39 40 41 zh N G T) (q_row : zRow 42 43 44 zh G T N 0) {zQ : Option Value → am_H → Prop} (zk : ∀ (zg : am_H) (zj : Nat), am_fr [36, 47, 48, 49] zh zg → (∀ zs : Nat, zs ≠ 11 → zg.1 36 zs = zh.1 36 zs) → zIsN G T N zj → zg.1 36 11 = iN (zj : Int) → (∀ j : Nat, j < zj → zg.1 47 j = iN (zLa G T N j) ∧ zg.1 48 j = iN (zLb G T N j)) → zHd (zg.1 49) (zMd G T N zj) 16 → am_wp zd am_m_Plan_takeLots 148 [(0, .ref 36), (1, .ref 34), (2, .int (iN (N))), (3, .int (iN (zLa G T N zj)))] [] (78, 76) zg (78, 76) zQ) : ∀ (z_n : Nat) (zg : am_H) (zj : Nat) (q_f : am_fr [36, 47, 48, 49] zh zg) (q_sl : ∀ zs : Nat, zs ≠ 11 → zg.1 36 zs = zh.1 36 zs) (q_lq : ∀ j : Nat, j < zj → zLq G T N j) (q_la : zLa G T N zj ≤ N) (q_cn : zg.1 36 11 = iN (zj : Int)) (q_rw : ∀ j : Nat, j < zj → zg.1 47 j = iN (zLa G T N j) ∧ zg.1 48 j = iN (zLb G T N j)) (q_md : zHd (zg.1 49) (zMd G T N zj) 16), N - zLa G T N zj < (z_n : Int) → am_wp zd am_m_Plan_takeLots 36 [(0, .ref 36), (1, .ref 34), (2, .int (iN (N))), (3, .int (iN (zLa G T N zj)))] [] (78, 76) zg (78, 76) zQ := by
  obtain ⟨zd, rfl⟩ : ∃ y_e, zd = y_e + 2 := ⟨zd - 2, by omega⟩
  intro z_n
  induction z_n with
  | zero => intro zg zj q_f q_sl q_lq q_la q_cn q_rw q_md q_m; omega
  | succ z_n z_ih =>
    intro zg zj q_f q_sl q_lq q_la q_cn q_rw q_md q_m
    have q_N := q_g.1
    have y_a := zLa_rg q_g zj q_lq
    refine wp_run (k := 2) (pc1 := 38) (l1 := [(0, .ref 36), (1, .ref 34), (2, .int (iN (N))), (3, .int (iN (zLa G T N zj)))]) (st1 := [.int (iN (N)), .int (iN (zLa G T N zj))]) (kr1 := (78, 76)) (h1 := zg) rfl ?_
    refine wp_ge (a := zLa G T N zj) (b := N) rfl (by omega) (by omega) (fun b_38 => ?_) (fun b_38 => ?_)
    · exact zk zg zj q_f q_sl ⟨q_lq, fun y => by have y1 := y.1; have y2 := y.2; omega⟩ q_cn q_rw q_md
    · have y_d := zD_rg q_g (a := zLa G T N zj) (b := N - 1) (by omega) (by omega) (by omega)
      refine wp_run (k := 3) (pc1 := 47) (l1 := [(0, .ref 36), (1, .ref 34), (2, .int (iN (N))), (3, .int (iN (zLa G T N zj)))]) (st1 := [.int (iN (16)), .int (iN ((zj : Int)))]) (kr1 := (78, 76)) (h1 := zg) (Eq.trans (b := (some (47, [(0, .ref 36), (1, .ref 34), (2, .int (iN (N))), (3, .int (iN (zLa G T N zj)))], [.int (iN (16)), .int (zg.1 36 11)], (78, 76), zg) : Option am_C)) rfl (by simp only [(show (zg).1 36 11 = iN (zj : Int) from q_cn), Int32.ofInt_add, Int32.ofInt_sub, Int32.ofInt_mul, Int32.ofInt_neg])) ?_
      refine wp_ge (a := (zj : Int)) (b := 16) rfl (by omega) (by omega) (fun b_47 => ?_) (fun b_47 => ?_)
      · exact zk zg zj q_f q_sl ⟨q_lq, fun y => by have y1 := y.1; have y2 := y.2; omega⟩ q_cn q_rw q_md
      · refine wp_run (k := 6) (pc1 := 58) (l1 := [(0, .ref 36), (1, .ref 34), (2, .int (iN (N))), (3, .int (iN (zLa G T N zj)))]) (st1 := [.int (iN ((N) - (1))), .int (iN (zLa G T N zj)), .ref 37]) (kr1 := (78, 76)) (h1 := zg) (Eq.trans (b := (some (58, [(0, .ref 36), (1, .ref 34), (2, .int (iN (N))), (3, .int (iN (zLa G T N zj)))], [.int ((iN (N)) - (iN (1))), .int (iN (zLa G T N zj)), .ref 37], (78, 76), zg) : Option am_C)) rfl (by simp only [Int32.ofInt_add, Int32.ofInt_sub, Int32.ofInt_mul, Int32.ofInt_neg])) ?_
        refine wp_call (md1 := am_m_Lots_pieces) (As := [.ref 37, .int (iN (zLa G T N zj)), .int (iN ((N) - (1)))]) (rest := []) (kr1 := (78, 76)) rfl (jt_lpieces_37 _ (by omega) (zLots_f (q_f) (by decide) (by decide) (by decide) (by decide) q_lo).1 q_N.2 (za := zLa G T N zj) (zb := (N) - (1)) (by omega)) ?_
        rintro _ _ ⟨rfl, rfl⟩
        refine wp_le0 (a := zD G (zLa G T N zj) ((N) - (1))) rfl (by omega) (fun b_61 => ?_) (fun b_61 => ?_)
        · exact zk zg zj q_f q_sl ⟨q_lq, fun y => by have y1 := y.1; have y2 := y.2; omega⟩ q_cn q_rw q_md
        · have y_b := zLb_rg q_g q_lq ⟨by omega, by omega⟩
          have y_z := zD_rg q_g (a := zLa G T N zj) (b := zLb G T N zj) (by omega) (by omega) (by omega)
          refine wp_run (k := 4) (pc1 := 70) (l1 := [(0, .ref 36), (1, .ref 34), (2, .int (iN (N))), (3, .int (iN (zLa G T N zj)))]) (st1 := [.int (iN (zLa G T N zj)), .ref 43, .int (iN (zLa G T N zj))]) (kr1 := (78, 76)) (h1 := zg) rfl ?_
          refine wp_call (md1 := am_m_Lp_at) (As := [.ref 43, .int (iN (zLa G T N zj))]) (rest := [.int (iN (zLa G T N zj))]) (kr1 := (78, 76)) rfl (jt_at _ (by omega) (zn := 17) (zi := zLa G T N zj) (zv := iN (zLb G T N zj)) rfl rfl (by decide) (by omega) (by omega) ((congrFun (q_f.2 43 (by decide)) _).trans (q_row (zLa G T N zj) (by omega) (by omega)).2.1)) ?_
          rintro _ _ ⟨rfl, rfl⟩
          refine wp_now (rest := [.int (if iN (zLa G T N zj) < iN (zLb G T N zj) then iN (zLb G T N zj) else iN (zLa G T N zj))]) rfl ?_
          rw [show (if iN (zLa G T N zj) < iN (zLb G T N zj) then iN (zLb G T N zj) else iN (zLa G T N zj)) = iN (max (zLa G T N zj) (zLb G T N zj)) from iN_max (by omega) (by omega)]
          rw [show max (zLa G T N zj) (zLb G T N zj) = zLb G T N zj by omega]
          refine wp_run (k := 6) (pc1 := 87) (l1 := [(0, .ref 36), (1, .ref 34), (2, .int (iN (N))), (3, .int (iN (zLa G T N zj))), (4, .int (iN (zLb G T N zj)))]) (st1 := [.int (iN (zLa G T N zj)), .int (iN ((zj : Int))), .ref 47]) (kr1 := (78, 76)) (h1 := zg) (Eq.trans (b := (some (87, [(0, .ref 36), (1, .ref 34), (2, .int (iN (N))), (3, .int (iN (zLa G T N zj))), (4, .int (iN (zLb G T N zj)))], [.int (iN (zLa G T N zj)), .int (zg.1 36 11), .ref 47], (78, 76), zg) : Option am_C)) rfl (by simp only [(show (zg).1 36 11 = iN (zj : Int) from q_cn), Int32.ofInt_add, Int32.ofInt_sub, Int32.ofInt_mul, Int32.ofInt_neg])) ?_
          refine wp_call (md1 := am_m_Lp_lay) (As := [.ref 47, .int (iN ((zj : Int))), .int (iN (zLa G T N zj))]) (rest := []) (kr1 := (78, 76)) rfl (jt_lay _ (by omega) (zn := 16) (zi := (zj : Int)) (zv := iN (zLa G T N zj)) (by decide) (by decide) rfl rfl rfl (by decide) (by omega) (by omega)) ?_
          rintro _ _ ⟨rfl, rfl⟩
          refine wp_run (k := 5) (pc1 := 100) (l1 := [(0, .ref 36), (1, .ref 34), (2, .int (iN (N))), (3, .int (iN (zLa G T N zj))), (4, .int (iN (zLb G T N zj)))]) (st1 := [.int (iN (zLb G T N zj)), .int (iN ((zj : Int))), .ref 48]) (kr1 := (78, 76)) (h1 := am_wr zg 47 ((zj : Int) : Int).toNat (iN (zLa G T N zj))) (Eq.trans (b := (some (100, [(0, .ref 36), (1, .ref 34), (2, .int (iN (N))), (3, .int (iN (zLa G T N zj))), (4, .int (iN (zLb G T N zj)))], [.int (iN (zLb G T N zj)), .int ((am_wr zg 47 ((zj : Int) : Int).toNat (iN (zLa G T N zj))).1 36 11), .ref 48], (78, 76), am_wr zg 47 ((zj : Int) : Int).toNat (iN (zLa G T N zj))) : Option am_C)) rfl (by simp only [(show (am_wr zg 47 ((zj : Int) : Int).toNat (iN (zLa G T N zj))).1 36 11 = iN (zj : Int) from (congrFun (am_wr_ne (by decide)) _).trans (q_cn))]; try simp only [Int32.ofInt_add, Int32.ofInt_sub, Int32.ofInt_mul, Int32.ofInt_neg])) ?_
          refine wp_call (md1 := am_m_Lp_lay) (As := [.ref 48, .int (iN ((zj : Int))), .int (iN (zLb G T N zj))]) (rest := []) (kr1 := (78, 76)) rfl (jt_lay _ (by omega) (zn := 16) (zi := (zj : Int)) (zv := iN (zLb G T N zj)) (by decide) (by decide) rfl rfl rfl (by decide) (by omega) (by omega)) ?_
          rintro _ _ ⟨rfl, rfl⟩
          refine wp_run (k := 6) (pc1 := 114) (l1 := [(0, .ref 36), (1, .ref 34), (2, .int (iN (N))), (3, .int (iN (zLa G T N zj))), (4, .int (iN (zLb G T N zj)))]) (st1 := [.int (iN (zLb G T N zj)), .int (iN (zLa G T N zj)), .ref 37, .ref 49]) (kr1 := (78, 76)) (h1 := am_wr (am_wr zg 47 ((zj : Int) : Int).toNat (iN (zLa G T N zj))) 48 ((zj : Int) : Int).toNat (iN (zLb G T N zj))) rfl ?_
          refine wp_call (md1 := am_m_Lots_makerOf) (As := [.ref 37, .int (iN (zLa G T N zj)), .int (iN (zLb G T N zj))]) (rest := [.ref 49]) (kr1 := (78, 76)) rfl (jt_makerOf_37 _ (by omega) (za := zLa G T N zj) (zb := zLb G T N zj) (by omega) ((congrFun ((am_fr_w (am_fr_w (q_f) (by decide) _ _) (by decide) _ _ : am_fr _ _ _).2 39 (by decide)) _).trans ((q_lo.2 (zLa G T N zj) (zLb G T N zj) (by omega) (by omega) (by omega)).2 y_b.2.2.2.1).1)) ?_
          rintro _ _ ⟨rfl, rfl⟩
          refine wp_run (k := 4) (pc1 := 124) (l1 := [(0, .ref 36), (1, .ref 34), (2, .int (iN (N))), (3, .int (iN (zLa G T N zj))), (4, .int (iN (zLb G T N zj)))]) (st1 := [.int (iN (zLb G T N zj)), .int (iN (zLa G T N zj)), .ref 37, .int (iN (zMk G T N zj)), .ref 49]) (kr1 := (78, 76)) (h1 := am_wr (am_wr zg 47 ((zj : Int) : Int).toNat (iN (zLa G T N zj))) 48 ((zj : Int) : Int).toNat (iN (zLb G T N zj))) rfl ?_
          refine wp_call (md1 := am_m_Lots_pieces) (As := [.ref 37, .int (iN (zLa G T N zj)), .int (iN (zLb G T N zj))]) (rest := [.int (iN (zMk G T N zj)), .ref 49]) (kr1 := (78, 76)) rfl (jt_lpieces_37 _ (by omega) (zLots_f (am_fr_w (am_fr_w (q_f) (by decide) _ _) (by decide) _ _) (by decide) (by decide) (by decide) (by decide) q_lo).1 q_N.2 (za := zLa G T N zj) (zb := zLb G T N zj) (by omega)) ?_
          rintro _ _ ⟨rfl, rfl⟩
          refine wp_call (md1 := am_m_Lp_lay) (As := [.ref 49, .int (iN (zMk G T N zj)), .int (iN (zD G (zLa G T N zj) (zLb G T N zj)))]) (rest := []) (kr1 := (78, 76)) rfl (jt_lay _ (by omega) (zn := 16) (zi := zMk G T N zj) (zv := iN (zD G (zLa G T N zj) (zLb G T N zj))) (by decide) (by decide) rfl rfl rfl (by decide) (by omega) (by omega)) ?_
          rintro _ _ ⟨rfl, rfl⟩
          refine wp_run (k := 5) (pc1 := 137) (l1 := [(0, .ref 36), (1, .ref 34), (2, .int (iN (N))), (3, .int (iN (zLa G T N zj))), (4, .int (iN (zLb G T N zj)))]) (st1 := [.int (iN (((zj : Int)) + (1))), .ref 36]) (kr1 := (78, 76)) (h1 := am_wr (am_wr (am_wr zg 47 ((zj : Int) : Int).toNat (iN (zLa G T N zj))) 48 ((zj : Int) : Int).toNat (iN (zLb G T N zj))) 49 (zMk G T N zj : Int).toNat (iN (zD G (zLa G T N zj) (zLb G T N zj)))) (Eq.trans (b := (some (137, [(0, .ref 36), (1, .ref 34), (2, .int (iN (N))), (3, .int (iN (zLa G T N zj))), (4, .int (iN (zLb G T N zj)))], [.int (((am_wr (am_wr (am_wr zg 47 ((zj : Int) : Int).toNat (iN (zLa G T N zj))) 48 ((zj : Int) : Int).toNat (iN (zLb G T N zj))) 49 (zMk G T N zj : Int).toNat (iN (zD G (zLa G T N zj) (zLb G T N zj)))).1 36 11) + (iN (1))), .ref 36], (78, 76), am_wr (am_wr (am_wr zg 47 ((zj : Int) : Int).toNat (iN (zLa G T N zj))) 48 ((zj : Int) : Int).toNat (iN (zLb G T N zj))) 49 (zMk G T N zj : Int).toNat (iN (zD G (zLa G T N zj) (zLb G T N zj)))) : Option am_C)) rfl (by simp only [(show (am_wr (am_wr (am_wr zg 47 ((zj : Int) : Int).toNat (iN (zLa G T N zj))) 48 ((zj : Int) : Int).toNat (iN (zLb G T N zj))) 49 (zMk G T N zj : Int).toNat (iN (zD G (zLa G T N zj) (zLb G T N zj)))).1 36 11 = iN (zj : Int) from (congrFun (am_wr_ne (by decide)) _).trans ((congrFun (am_wr_ne (by decide)) _).trans ((congrFun (am_wr_ne (by decide)) _).trans (q_cn))))]; try simp only [Int32.ofInt_add, Int32.ofInt_sub, Int32.ofInt_mul, Int32.ofInt_neg])) ?_
          refine wp_run (k := 6) (pc1 := 36) (l1 := [(0, .ref 36), (1, .ref 34), (2, .int (iN (N))), (3, .int (iN ((zLb G T N zj) + (1)))), (4, .int (iN (zLb G T N zj)))]) (st1 := []) (kr1 := (78, 76)) (h1 := am_wr (am_wr (am_wr (am_wr zg 47 ((zj : Int) : Int).toNat (iN (zLa G T N zj))) 48 ((zj : Int) : Int).toNat (iN (zLb G T N zj))) 49 (zMk G T N zj : Int).toNat (iN (zD G (zLa G T N zj) (zLb G T N zj)))) 36 11 (iN (((zj : Int)) + (1)))) (Eq.trans (b := (some (36, [(0, .ref 36), (1, .ref 34), (2, .int (iN (N))), (3, .int ((iN (zLb G T N zj)) + (iN (1)))), (4, .int (iN (zLb G T N zj)))], [], (78, 76), am_wr (am_wr (am_wr (am_wr zg 47 ((zj : Int) : Int).toNat (iN (zLa G T N zj))) 48 ((zj : Int) : Int).toNat (iN (zLb G T N zj))) 49 (zMk G T N zj : Int).toNat (iN (zD G (zLa G T N zj) (zLb G T N zj)))) 36 11 (iN (((zj : Int)) + (1)))) : Option am_C)) rfl (by simp only [Int32.ofInt_add, Int32.ofInt_sub, Int32.ofInt_mul, Int32.ofInt_neg])) ?_
          refine wp_drop [4] (l := [(0, .ref 36), (1, .ref 34), (2, .int (iN (N))), (3, .int (iN ((zLb G T N zj) + (1))))]) rfl rfl ?_
          refine z_ih (am_wr (am_wr (am_wr (am_wr zg 47 ((zj : Int) : Int).toNat (iN (zLa G T N zj))) 48 ((zj : Int) : Int).toNat (iN (zLb G T N zj))) 49 (zMk G T N zj : Int).toNat (iN (zD G (zLa G T N zj) (zLb G T N zj)))) 36 11 (iN (((zj : Int)) + (1)))) (zj + 1) (am_fr_w (am_fr_w (am_fr_w (am_fr_w (q_f) (by decide) _ _) (by decide) _ _) (by decide) _ _) (by decide) _ _) ?_ ?_ (by show zLb G T N zj + 1 ≤ N; omega) ?_ ?_ ?_ ?_
          · intro zs y1; rw [am_wr_no y1, am_wr_ne (by decide), am_wr_ne (by decide), am_wr_ne (by decide)]; exact q_sl zs y1
          · intro j y1
            by_cases y2 : j = zj
            · rw [y2]; exact ⟨by omega, by omega⟩
            · exact q_lq j (by omega)
          · rw [am_wr_at]; rfl
          · intro j y1
            rw [am_wr_ne (by decide), am_wr_ne (by decide), am_wr_ne (show 47 ≠ 48 by decide), am_wr_ne (show 48 ≠ 36 by decide), am_wr_ne (show 48 ≠ 49 by decide)]
            by_cases y2 : j = zj
            · subst y2; rw [show ((j : Int) : Int).toNat = j by omega, am_wr_at, am_wr_at]; exact ⟨rfl, rfl⟩
            · rw [am_wr_no (by omega), am_wr_no (by omega), am_wr_ne (show 48 ≠ 47 by decide)]; exact q_rw j (by omega)
          · intro p y1 y2
            rw [am_wr_ne (by decide)]
            show _ = iN (if p = zMk G T N zj then zD G (zLa G T N zj) (zLb G T N zj) else zMd G T N zj p)
            by_cases y3 : p = zMk G T N zj
            · rw [if_pos y3, y3, am_wr_at]
            · rw [if_neg y3, am_wr_no (by omega), am_wr_ne (by decide), am_wr_ne (by decide)]; exact q_md p y1 y2
          · show N - (zLb G T N zj + 1) < _; omega
set_option maxRecDepth 20000 in
set_option maxHeartbeats 4000000 in
theorem jt_take_36 (zd : Nat) (q_d : 3 ≤ zd) {zh : am_H} {N : Int} {G : Int → Int → Int} {S T : Int} (q_nm : zNm (zh.1 34) (zh.1 35) N G S T) (q_g : zGk N G S T) (q_lo : zLots 38 39 40 41 zh N G T) (q_row : zRow 42 43 44 zh G T N 0) : am_wp zd am_m_Plan_takeLots 0 [(0, .ref 36), (1, .ref 34)] [] (78, 76) zh (78, 76) (fun rv h' => rv = none ∧ am_fr [36, 47, 48, 49, 50] zh h' ∧ (∀ zs : Nat, zs ≠ 11 → h'.1 36 zs = zh.1 36 zs) ∧ zTook 36 47 48 49 50 h' N G T) := by
  obtain ⟨zd, rfl⟩ : ∃ y_e, zd = y_e + 3 := ⟨zd - 3, by omega⟩
  have q_N := q_g.1
  refine wp_run (k := 1) (pc1 := 1) (l1 := [(0, .ref 36), (1, .ref 34)]) (st1 := [.ref 34]) (kr1 := (78, 76)) (h1 := zh) rfl ?_
  refine wp_call (md1 := am_m_Numbers_size) (As := [.ref 34]) (rest := []) (kr1 := (78, 76)) rfl (jt_size_34 _ (by omega) q_nm q_g) ?_
  rintro _ _ ⟨rfl, rfl⟩
  refine wp_run (k := 3) (pc1 := 7) (l1 := [(0, .ref 36), (1, .ref 34), (2, .int (iN (N))), (3, .int (iN (0)))]) (st1 := []) (kr1 := (78, 76)) (h1 := zh) rfl ?_
  refine jl_tzero_36 (zh := zh) (N := N) _ (by omega) ?_ 17 zh 0 (am_fr_0 _ _) (by omega) (fun k y1 y2 => by omega) (by omega)
  intro zg q_f q_w
  refine wp_run (k := 5) (pc1 := 36) (l1 := [(0, .ref 36), (1, .ref 34), (2, .int (iN (N))), (3, .int (iN (0)))]) (st1 := []) (kr1 := (78, 76)) (h1 := am_wr zg 36 11 (iN (0))) rfl ?_
  have q_f0 : am_fr [36, 47, 48, 49] zh (am_wr zg 36 11 (iN (0))) := am_fr_w (am_fr_m q_f (fun c y => by simp only [List.mem_cons, List.not_mem_nil, or_false] at y ⊢; omega)) (by decide) _ _
  refine jl_tlots_36 (zh := zh) (S := S) (T := T) _ (by omega) q_g q_lo q_row ?_ 17 (am_wr zg 36 11 (iN (0))) 0 q_f0 ?_ (fun j y1 => by omega) (by show (0 : Int) ≤ N; omega) (by rw [am_wr_at]; rfl) (fun j y1 => by omega) ?_ (by show N - 0 < _; omega)
  rotate_left
  · intro zs y1; rw [am_wr_no y1, q_f.2 36 (by decide)]
  · intro p y1 y2; rw [am_wr_ne (by decide)]; exact q_w p y1 y2
  intro zg1 zj q_f1 q_sl1 q_n1 q_cn1 q_rw1 q_md1
  refine wp_run (k := 4) (pc1 := 154) (l1 := [(0, .ref 36), (1, .ref 34), (2, .int (iN (N))), (3, .int (iN (zLa G T N zj))), (4, .int (iN (0))), (5, .int (iN (0)))]) (st1 := []) (kr1 := (78, 76)) (h1 := zg1) rfl ?_
  refine jl_tstock_36 (zh := zg1) (N := N) (G := G) (S := S) (T := T) (B := zMd G T N zj) _ (by omega) (zNm_f q_f1 q_nm (by decide) (by decide)) q_g q_md1 ?_ 17 zg1 0 0 (am_fr_0 _ _) (by omega) rfl (fun x y1 y2 => by omega) (by omega)
  intro zg2 q_f2 q_w2
  refine ⟨rfl, am_fr_t (am_fr_m q_f1 (fun c y => by simp only [List.mem_cons, List.not_mem_nil, or_false] at y ⊢; omega)) (am_fr_m q_f2 (fun c y => by simp only [List.mem_cons, List.not_mem_nil, or_false] at y ⊢; omega)), ?_, zj, q_n1, ?_, ?_, ?_, q_w2⟩
  · intro zs y1; rw [q_f2.2 36 (by decide)]; exact q_sl1 zs y1
  · rw [q_f2.2 36 (by decide)]; exact q_cn1
  · intro j y1; rw [q_f2.2 47 (by decide), q_f2.2 48 (by decide)]; exact q_rw1 j y1
  · rw [q_f2.2 49 (by decide)]; exact q_md1
