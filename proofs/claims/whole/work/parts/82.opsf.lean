/-! ONE CALL on both sides: from a shelf, a text -/
theorem zFn_e {N Zs p i : Int} {Y Y' : Int → Int} (q : ∀ c : Int, 0 ≤ c → i + c < Zs → Y c = Y' c) : ∀ (k : Nat) (c : Int), 0 ≤ c → zFn N Zs p i Y k c = zFn N Zs p i Y' k c := by
  intro k
  induction k with
  | zero => intro c _; rfl
  | succ k ih =>
    intro c y
    show (if p + c < N ∧ i + c < Zs ∧ 0 ≤ Y c ∧ Y c ≤ 99 then zFn N Zs p i Y k (c + 1) else c) = (if p + c < N ∧ i + c < Zs ∧ 0 ≤ Y' c ∧ Y' c ≤ 99 then zFn N Zs p i Y' k (c + 1) else c)
    by_cases z : i + c < Zs
    · rw [q c y z, ih (c + 1) (by omega)]
    · rw [if_neg (fun y => z y.2.1), if_neg (fun y => z y.2.1)]
theorem zFn_v {N Zs p i : Int} {Y : Int → Int} : ∀ (k : Nat) (c x : Int), c ≤ x → x < zFn N Zs p i Y k c → i + x < Zs ∧ 0 ≤ Y x ∧ Y x ≤ 99 := by
  intro k
  induction k with
  | zero => intro c x y1 y2; exact absurd (show x < c from y2) (by omega)
  | succ k ih =>
    intro c x y1 y2
    have y2 : x < (if p + c < N ∧ i + c < Zs ∧ 0 ≤ Y c ∧ Y c ≤ 99 then zFn N Zs p i Y k (c + 1) else c) := y2
    by_cases z : p + c < N ∧ i + c < Zs ∧ 0 ≤ Y c ∧ Y c ≤ 99
    · rw [if_pos z] at y2
      by_cases y3 : x = c
      · rw [y3]; exact z.2
      · exact ih (c + 1) x (by omega) y2
    · rw [if_neg z] at y2; omega
theorem zGf_e {N Zs p i : Int} {Y Y' : Int → Int} (G : Int → Int → Int) (k : Nat) (q : ∀ c : Int, 0 ≤ c → i + c < Zs → Y c = Y' c) : zGf G p (zFn N Zs p i Y' k 0) Y = zGf G p (zFn N Zs p i Y' k 0) Y' := by
  funext w' p'
  show (if w' = 0 ∧ p ≤ p' ∧ p' < p + zFn N Zs p i Y' k 0 then Y (p' - p) else G w' p') = (if w' = 0 ∧ p ≤ p' ∧ p' < p + zFn N Zs p i Y' k 0 then Y' (p' - p) else G w' p')
  by_cases z : w' = 0 ∧ p ≤ p' ∧ p' < p + zFn N Zs p i Y' k 0
  · rw [if_pos z, if_pos z]
    exact q _ (by omega) (zFn_v (N := N) (Zs := Zs) (p := p) (i := i) (Y := Y') k 0 _ (by omega) (by omega)).1
  · rw [if_neg z, if_neg z]
theorem zGf_gk {N Zs p i : Int} {Y : Int → Int} {G : Int → Int → Int} {S T : Int} (k : Nat) (q : zGk N G S T) : zGk N (zGf G p (zFn N Zs p i Y k 0) Y) S T := by
  refine ⟨q.1, fun w' p' y1 y2 y3 y4 => ?_, q.2.2⟩
  show 0 ≤ (if w' = 0 ∧ p ≤ p' ∧ p' < p + zFn N Zs p i Y k 0 then Y (p' - p) else G w' p') ∧ (if w' = 0 ∧ p ≤ p' ∧ p' < p + zFn N Zs p i Y k 0 then Y (p' - p) else G w' p') ≤ vmax w'
  by_cases z : w' = 0 ∧ p ≤ p' ∧ p' < p + zFn N Zs p i Y k 0
  · rw [if_pos z, z.1, show vmax 0 = 99 from rfl]
    exact (zFn_v (N := N) (Zs := Zs) (p := p) (i := i) (Y := Y) k 0 _ (by omega) (by omega)).2
  · rw [if_neg z]; exact q.2.1 w' p' y1 y2 y3 y4
theorem zGf_0 (G : Int → Int → Int) (p : Int) (Y : Int → Int) : zGf G p 0 Y = G := by
  funext w' p'
  exact if_neg (by omega)
set_option maxRecDepth 20000 in
set_option maxHeartbeats 4000000 in
theorem jo_from (zd : Nat) (q_d : 8 ≤ zd) {n : Nat} {P : zSta} {zs zi zp : Int} (q_n : n ≤ 600) (q_P : zPu P) (q_zsr : -2147483648 ≤ zs ∧ zs < 2147483648) (q_zir : -2147483648 ≤ zi ∧ zi < 2147483648) (q_zpr : -2147483648 ≤ zp ∧ zp < 2147483648) : zBoth zd am_m_Lp_from am_m_Model_from [(1, .int (iN zs)), (2, .int (iN zi)), (3, .int (iN zp))] n P := by
  have q_P0 := q_P
  obtain ⟨p_g, p_k, p_u, p_h, ⟨p_l, p_c⟩, p_z, p_m⟩ := q_P
  by_cases y : (0 ≤ zs ∧ zs < 4 ∧ 0 ≤ zp ∧ zp < P.xN ∧ 0 ≤ P.xZ zs ∧ 0 ≤ zi)
  · refine ⟨(iN (zFn P.xN (P.xZ zs) zp zi (fun c => (P.xY (20 * zs + (zi + c))).toInt) (P.xN - zp).toNat 0)), zTl P (zGf P.xG zp (zFn P.xN (P.xZ zs) zp zi (fun c => (P.xY (20 * zs + (zi + c))).toInt) (P.xN - zp).toNat 0) (fun c => (P.xY (20 * zs + (zi + c))).toInt)) P.xS P.xT P.xL, zTl_pu q_P0 (zGf_gk _ p_g) (Or.inl rfl), fun h q_h => ?_, fun h q_h => ?_⟩
    · have q_h0 := q_h
      obtain ⟨q_nm, q_hd, q_c, q_t, q_s, q_i, q_k⟩ := q_h
      obtain ⟨zs0, zk, zb, zt, zj, q_b⟩ := q_k
      have q_b0 := q_b
      obtain ⟨⟨a1, a2, a3, a4, a5⟩, b1, b2, b3, b4, ⟨c1, c2⟩, e1, e2⟩ := q_b
      have y_e : ∀ c : Int, 0 ≤ c → zi + c < P.xZ zs → (h.2 32 (20 * zs + (zi + c)).toNat).toInt = (P.xY (20 * zs + (zi + c))).toInt := fun c z1 z2 => congrArg Int64.toInt (q_s.2 zs (zi + c) y.1 y.2.1 (by omega) z2)
      have y_f := zFn_e (N := P.xN) (p := zp) y_e (P.xN - zp).toNat 0 (by omega)
      have y_g := zGf_e (N := P.xN) (p := zp) P.xG (P.xN - zp).toNat y_e
      refine wp_con (jL_from zd (by omega) q_nm p_g q_c.1 (by omega) a1 (fun k y1 y2 => ⟨q_s.1 k y1 y2, p_z k y1 y2⟩) q_zsr q_zir q_zpr) (fun rv h' z => ⟨(z.1 y).1.trans (congrArg (fun x => some (Value.int (iN x))) y_f), ?_⟩)
      obtain ⟨_, qf, q_n, q_nm1, _, f1⟩ := z.1 y
      rw [y_f] at f1 q_nm1
      rw [y_g] at q_nm1
      have y_r := zFn_rg (N := P.xN) (Zs := P.xZ zs) (p := zp) (i := zi) (Y := (fun c => (P.xY (20 * zs + (zi + c))).toInt)) (P.xN - zp).toNat 0
      have q_N := p_g.1
      refine zIL_n q_P0 q_h0 qf q_n q_nm1 ?_
      by_cases y9 : (zFn P.xN (P.xZ zs) zp zi (fun c => (P.xY (20 * zs + (zi + c))).toInt) (P.xN - zp).toNat 0) = 0
      · rw [y9, zGf_0]
        refine zJk_same (zw := zt) q_b0 qf (by decide) (by rw [f1, y9]; exact congrArg iN (by omega)) ?_ (by omega)
        rw [qf.2 34 (by decide)]; exact a4
      · exact zJk_n q_b0 qf (by decide) f1 (by omega)
    · have q_h0 := q_h
      obtain ⟨q_nm, q_hd, ⟨q_u, q_v, q_c⟩, q_t, q_s, q_m, q_i⟩ := q_h
      have y_e : ∀ c : Int, 0 ≤ c → zi + c < P.xZ zs → (h.2 75 (20 * zs + (zi + c)).toNat).toInt = (P.xY (20 * zs + (zi + c))).toInt := fun c z1 z2 => congrArg Int64.toInt (q_s.2 zs (zi + c) y.1 y.2.1 (by omega) z2)
      have y_f := zFn_e (N := P.xN) (p := zp) y_e (P.xN - zp).toNat 0 (by omega)
      have y_g := zGf_e (N := P.xN) (p := zp) P.xG (P.xN - zp).toNat y_e
      refine wp_con (jR_from zd (by omega) q_nm p_g q_u (by omega) (fun k y1 y2 => ⟨q_s.1 k y1 y2, p_z k y1 y2⟩) q_zsr q_zir q_zpr) (fun rv h' z => ⟨(z.1 y).1.trans (congrArg (fun x => some (Value.int (iN x))) y_f), ?_⟩)
      obtain ⟨_, zk1, f1, f2, f3⟩ := z.1 y
      rw [y_f, y_g] at f2
      exact zIR_n q_P0 q_h0 f1 (by decide) (fun zs z => by rw [f1.2 55 (by decide)]) (by rw [f1.2 55 (by decide)]; exact q_t.1) (Or.inl rfl) f2 f3
  · refine ⟨(iN (if ¬ (0 ≤ zs ∧ zs < 4) ∨ ¬ (0 ≤ zp ∧ zp < P.xN) then -1 else if P.xZ zs < 0 then -11 else -13)), P, q_P0, fun h q_h => ?_, fun h q_h => ?_⟩
    · have q_h0 := q_h
      obtain ⟨q_nm, q_hd, q_c, q_t, q_s, q_i, q_k⟩ := q_h
      obtain ⟨zs0, zk, zb, zt, zj, q_b⟩ := q_k
      obtain ⟨⟨a1, a2, a3, a4, a5⟩, b1, b2, b3, b4, ⟨c1, c2⟩, e1, e2⟩ := q_b
      exact wp_con (jL_from zd (by omega) q_nm p_g q_c.1 (by omega) a1 (fun k y1 y2 => ⟨q_s.1 k y1 y2, p_z k y1 y2⟩) q_zsr q_zir q_zpr) (fun rv h' z => ⟨(z.2 y).1, zIL_0 q_h0 (z.2 y).2⟩)
    · have q_h0 := q_h
      obtain ⟨q_nm, q_hd, ⟨q_u, q_v, q_c⟩, q_t, q_s, q_m, q_i⟩ := q_h
      exact wp_con (jR_from zd (by omega) q_nm p_g q_u (by omega) (fun k y1 y2 => ⟨q_s.1 k y1 y2, p_z k y1 y2⟩) q_zsr q_zir q_zpr) (fun rv h' z => ⟨(z.2 y).1, zIR_0 q_h0 (z.2 y).2⟩)
theorem zTf_gk {F : Int → Int} {L N : Int} {S T : Int} : ∀ (k : Nat) (i c : Int) (G : Int → Int → Int), 0 ≤ i → i ≤ L → zGk N G S T → zGk N (zTf F L N k i c G).2 S T := by
  intro k
  induction k with
  | zero => intro i c G _ _ q; exact q
  | succ k ih =>
    intro i c G y1 y2 q
    have r := zCs_rg (F := F) (L := L) (N := N) ⟨y1, y2⟩
    unfold zTf
    by_cases z1 : (zCs F L N i).1 = 1
    · have r2 := r.2.2.2 z1
      rw [if_pos z1]
      by_cases z2 : (zCs F L N i).2.2.2.2 = L
      · rw [if_pos z2]; exact zTg_gk q ⟨r2.2.2.2.2.2.1, r2.2.2.2.2.2.2⟩
      · rw [if_neg z2]
        by_cases z3 : zSg F L (zCs F L N i).2.2.2.2 = 59
        · rw [if_pos z3]
          exact ih _ _ _ (by omega) (by omega) (zTg_gk q ⟨r2.2.2.2.2.2.1, r2.2.2.2.2.2.2⟩)
        · rw [if_neg z3]; exact q
    · rw [if_neg z1]; exact q
theorem zJk_rd {ks : List Nat} {n : Nat} {h h' : am_H} {N N' : Int} {G G' : Int → Int → Int} {S S' T T' zs zk zb zt zj zx zw : Int} (q : zJb n h N G S T zs zk zb zt zj) (qf : am_fr ks h h') (q1 : ∀ c, c ∈ [3, 8, 18, 36, 41] → c ∉ ks) (q2 : h'.1 1 2 = iN zx) (q3 : zs < zx ∧ zx ≤ zs + 5000) (q4 : h'.1 34 2 = iN zw) (q5 : zt ≤ zw ∧ zw ≤ zt + 5000) : zJk (n + 1) h' N' G' S' T' := by
  obtain ⟨⟨a1, a2, a3, a4, a5⟩, b1, b2, b3, b4, ⟨c1, c2⟩, e1, e2⟩ := q
  refine ⟨zx, zk, zb, zw, zj, ⟨q2, ?_, ?_, q4, ?_⟩, by omega, by omega, by omega, by omega, ⟨?_, ?_⟩, fun y => by omega, fun y => by omega⟩
  · rw [qf.2 3 (q1 _ (by decide))]; exact a2
  · rw [qf.2 18 (q1 _ (by decide))]; exact a3
  · rw [qf.2 36 (q1 _ (by decide))]; exact a5
  · rw [qf.2 8 (q1 _ (by decide))]; exact c1
  · rw [qf.2 41 (q1 _ (by decide))]; exact c2
set_option maxRecDepth 20000 in
set_option maxHeartbeats 4000000 in
theorem jo_read (zd : Nat) (q_d : 8 ≤ zd) {n : Nat} {P : zSta} (q_n : n ≤ 600) (q_P : zPu P)  : zBoth zd am_m_Lp_read am_m_Model_read [] n P := by
  have q_P0 := q_P
  obtain ⟨p_g, p_k, p_u, p_h, ⟨p_l, p_c⟩, p_z, p_m⟩ := q_P
  by_cases y : 0 ≤ (zTf P.xF P.xL P.xN 121 0 0 P.xG).1
  · refine ⟨(iN (zTf P.xF P.xL P.xN 121 0 0 P.xG).1), zTl P (zTf P.xF P.xL P.xN 121 0 0 P.xG).2 P.xS P.xT 0, zTl_pu q_P0 (zTf_gk 121 0 0 P.xG (by omega) p_l.1 p_g) (Or.inr rfl), fun h q_h => ?_, fun h q_h => ?_⟩
    · have q_h0 := q_h
      obtain ⟨q_nm, q_hd, q_c, q_t, q_s, q_i, q_k⟩ := q_h
      obtain ⟨zs0, zk, zb, zt, zj, q_b⟩ := q_k
      have q_b0 := q_b
      obtain ⟨⟨a1, a2, a3, a4, a5⟩, b1, b2, b3, b4, ⟨c1, c2⟩, e1, e2⟩ := q_b
      refine wp_con (jL_read zd (by omega) q_nm p_g q_t.1 p_l q_t.2 p_c a4 q_c.1 (by omega) a1) (fun rv h' z => ⟨(z.1 y).1, ?_⟩)
      obtain ⟨_, qf, q_n, q_nm1, _, f1, f2, zw, f3, f4⟩ := z.1 y
      refine ⟨⟨?_, ?_, ?_, ?_, ?_, ?_, ?_⟩, zKL_f qf (by decide)⟩
      · exact q_nm1
      · rw [qf.2 24 (by decide)]; exact q_hd
      · exact zJc_n q_P0 q_nm q_c q_n
      · exact ⟨f2, fun k y1 y2 => absurd (show k < 0 from y2) (by omega)⟩
      · rw [qf.2 33 (by decide), qf.1]; exact q_s
      · rw [qf.2 0 (by decide), qf.2 51 (by decide), qf.2 52 (by decide), qf.2 54 (by decide)]; exact q_i
      · exact zJk_rd q_b0 qf (by decide) f1 (by omega) f3 (by omega)
    · have q_h0 := q_h
      obtain ⟨q_nm, q_hd, ⟨q_u, q_v, q_c⟩, q_t, q_s, q_m, q_i⟩ := q_h
      refine wp_con (jR_read zd (by omega) q_nm p_g q_t.1 p_l q_t.2 p_c q_u (by omega)) (fun rv h' z => ⟨(z.1 y).1, ?_⟩)
      obtain ⟨_, zk1, f1, f2, f3, f4, f5⟩ := z.1 y
      exact zIR_n q_P0 q_h0 f1 (by decide) (fun zs z => f2 zs (by omega) (by omega) (by omega) (by omega) (by omega) (by omega)) f3 (Or.inr rfl) f4 f5
  · refine ⟨(iN (zTf P.xF P.xL P.xN 121 0 0 P.xG).1), (zSt8 P.xN P.xG P.xS P.xT P.xB P.xU P.xV P.xGH P.xSH P.xTH (0) P.xF P.xZ P.xY P.xM P.xIG P.xIS P.xIT P.xIB), ⟨p_g, p_k, p_u, p_h, ⟨⟨Int.le_refl 0, (show (0 : Int) ≤ 120 by decide)⟩, fun k y1 y2 => absurd (show k < 0 from y2) (by omega)⟩, p_z, p_m⟩, fun h q_h => ?_, fun h q_h => ?_⟩
    · obtain ⟨q_nm, q_hd, q_c, q_t, q_s, q_i, q_k⟩ := q_h
      obtain ⟨zs0, zk, zb, zt, zj, q_b⟩ := q_k
      have q_b0 := q_b
      obtain ⟨⟨a1, a2, a3, a4, a5⟩, b1, b2, b3, b4, ⟨c1, c2⟩, e1, e2⟩ := q_b
      refine wp_con (jL_read zd (by omega) q_nm p_g q_t.1 p_l q_t.2 p_c a4 q_c.1 (by omega) a1) (fun rv h' z => ⟨(z.2 y).1, ?_⟩)
      obtain ⟨_, qf, f2, zw, f3, f4⟩ := z.2 y
      refine ⟨⟨?_, ?_, ?_, ?_, ?_, ?_, ?_⟩, zKL_f qf (by decide)⟩
      · rw [qf.2 1 (by decide), qf.2 2 (by decide)]; exact q_nm
      · rw [qf.2 24 (by decide)]; exact q_hd
      · rw [qf.2 25 (by decide), qf.2 26 (by decide)]; exact q_c
      · exact ⟨f2, fun k y1 y2 => absurd (show k < 0 from y2) (by omega)⟩
      · rw [qf.2 33 (by decide), qf.1]; exact q_s
      · rw [qf.2 0 (by decide), qf.2 51 (by decide), qf.2 52 (by decide), qf.2 54 (by decide)]; exact q_i
      · exact zJk_same q_b0 qf (by decide) (by rw [qf.2 1 (by decide)]; exact a1) f3 (by omega)
    · obtain ⟨q_nm, q_hd, ⟨q_u, q_v, q_c⟩, q_t, q_s, q_m, q_i⟩ := q_h
      refine wp_con (jR_read zd (by omega) q_nm p_g q_t.1 p_l q_t.2 p_c q_u (by omega)) (fun rv h' z => ⟨(z.2 y).1, ?_⟩)
      obtain ⟨_, qf, f2, f3⟩ := z.2 y
      refine ⟨⟨?_, ?_, ⟨?_, ?_, ?_⟩, ?_, ?_, ?_⟩, zKR_f qf (by decide)⟩
      · exact zMm_g q_nm (f2 0 (by decide) (by decide) (by decide) (by decide) (by decide) (by decide)) (qf.2 56 (by decide))
      · rw [qf.2 57 (by decide)]; exact q_hd
      · rw [f2 4 (by decide) (by decide) (by decide) (by decide) (by decide) (by decide)]; exact q_u
      · rw [f2 5 (by decide) (by decide) (by decide) (by decide) (by decide) (by decide)]; exact q_v
      · rw [qf.2 58 (by decide)]; exact q_c
      · exact ⟨f3, fun k y1 y2 => absurd (show k < 0 from y2) (by omega)⟩
      · rw [qf.2 74 (by decide), qf.1]; exact q_s
      · rw [f2 36 (by decide) (by decide) (by decide) (by decide) (by decide) (by decide), qf.2 76 (by decide), qf.2 77 (by decide)]; exact ⟨q_m, q_i⟩
