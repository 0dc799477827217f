/-! THE CLASS's ByHand -/
/-- sums of a row -/
def zSm (F : Int → Int) : Nat → Int
  | 0 => 0
  | k + 1 => zSm F k + F k
def zSi (F : Int → Int) (k : Int) : Int := zSm F k.toNat
theorem zSi_s (F : Int → Int) (k : Int) (q_k : 0 ≤ k) : zSi F (k + 1) = zSi F k + F k := by
  unfold zSi
  rw [show (k + 1).toNat = k.toNat + 1 by omega]
  show zSm F k.toNat + F (k.toNat : Int) = _
  rw [show (k.toNat : Int) = k by omega]
theorem zSi_0 (F : Int → Int) : zSi F 0 = 0 := rfl
def zHd (zf : Nat → Int32) (B : Int → Int) (N : Int) : Prop := ∀ p : Int, 0 ≤ p → p < N → zf p.toNat = iN (B p)
def zHk (N : Int) (B : Int → Int) : Prop := (∀ p : Int, 0 ≤ p → p < N → 0 ≤ B p ∧ B p ≤ 1584) ∧ ∀ p : Int, N ≤ p → B p = 0
theorem zHk_b {N : Int} {B : Int → Int} (q : zHk N B) (p : Int) (q_p : 0 ≤ p) : 0 ≤ B p ∧ B p ≤ 1584 := by
  by_cases q1 : p < N
  · exact q.1 p q_p q1
  · rw [q.2 p (by omega)]; omega
theorem zSi_rg {N : Int} {B : Int → Int} (q : zHk N B) : ∀ k : Nat, 0 ≤ zSi B k ∧ zSi B k ≤ 1584 * k := by
  intro k
  induction k with
  | zero => rw [show ((0 : Nat) : Int) = 0 from rfl, zSi_0]; omega
  | succ k z_ih =>
    have q1 := zHk_b q k (by omega)
    have q2 := zSi_s B k (by omega)
    rw [show ((k + 1 : Nat) : Int) = (k : Int) + 1 by omega, q2]
    omega
theorem zSi_r {N : Int} {B : Int → Int} (q : zHk N B) (k : Int) (q_k : 0 ≤ k) : 0 ≤ zSi B k ∧ zSi B k ≤ 1584 * k := by
  have q1 := zSi_rg q k.toNat
  rw [show (k.toNat : Int) = k by omega] at q1
  exact q1
theorem zSi_end {N : Int} {B : Int → Int} (q : zHk N B) (q_N : 0 ≤ N) : ∀ k : Nat, zSi B (N + k) = zSi B N := by
  intro k
  induction k with
  | zero => simp
  | succ k z_ih =>
    rw [show N + ((k + 1 : Nat) : Int) = N + k + 1 by omega, zSi_s B _ (by omega), z_ih, q.2 _ (by omega)]
    omega
theorem zSi_e {N : Int} {B : Int → Int} (q : zHk N B) (q_N : 0 ≤ N) {M : Int} (q_M : N ≤ M) : zSi B M = zSi B N := by
  have q1 := zSi_end q q_N (M - N).toNat
  rwa [show N + ((M - N).toNat : Int) = M by omega] at q1
/-- what is there behind the period p, if B is made -/
def zSt (G : Int → Int → Int) (B : Int → Int) (p : Int) : Int := zSi B (p + 1) - zPi G (p + 1)
def zSc (G : Int → Int → Int) (p s : Int) : Int := if 0 < s then s * G 3 p else -s * G 4 p
/-- what it costs to make B, up to a period -/
def zHc (G : Int → Int → Int) (B : Int → Int) : Nat → Int
  | 0 => 0
  | k + 1 => zHc G B k + (if 0 < B k then G 1 k + B k * G 2 k else 0) + zSc G k (zSt G B k)
def zHi (G : Int → Int → Int) (B : Int → Int) (k : Int) : Int := zHc G B k.toNat
theorem zHi_s (G : Int → Int → Int) (B : Int → Int) (k : Int) (q_k : 0 ≤ k) : zHi G B (k + 1) = zHi G B k + (if 0 < B k then G 1 k + B k * G 2 k else 0) + zSc G k (zSt G B k) := by
  unfold zHi
  rw [show (k + 1).toNat = k.toNat + 1 by omega]
  show zHc G B k.toNat + (if 0 < B (k.toNat : Int) then G 1 (k.toNat : Int) + B (k.toNat : Int) * G 2 (k.toNat : Int) else 0) + zSc G (k.toNat : Int) (zSt G B (k.toNat : Int)) = _
  rw [show (k.toNat : Int) = k by omega]
/-- something is wrong at p -/
def zWr (N : Int) (G : Int → Int → Int) (S T : Int) (B : Int → Int) (p : Int) : Prop := G 5 p < B p ∨ S < zSt G B p ∨ (zSt G B p < 0 ∧ T = 0) ∨ (zSt G B p ≠ 0 ∧ p = N - 1)
def zFst (N : Int) (P : Int → Prop) (v : Int) : Prop := (0 ≤ v ∧ v < N ∧ P v ∧ ∀ p : Int, 0 ≤ p → p < v → ¬ P p) ∨ (v = -2 ∧ ∀ p : Int, 0 ≤ p → p < N → ¬ P p)
theorem zFst_u {N : Int} {P : Int → Prop} {v w : Int} (q1 : zFst N P v) (q2 : zFst N P w) : v = w := by
  rcases q1 with ⟨y1, y2, y3, y4⟩ | ⟨y1, y2⟩ <;> rcases q2 with ⟨x1, x2, x3, x4⟩ | ⟨x1, x2⟩
  · by_cases q3 : v < w
    · exact absurd y3 (x4 v y1 q3)
    · by_cases q4 : w < v
      · exact absurd x3 (y4 w x1 q4)
      · omega
  · exact absurd y3 (x2 v y1 y2)
  · exact absurd x3 (y2 w x1 x2)
  · omega
def zIp (B : Int → Int) (zp zv : Int) : Int → Int := fun p => if p = zp then zv else B p
theorem zHd_up {zf : Nat → Int32} {B : Int → Int} {N zp zv : Int} (q : zHd zf B N) (q_p : 0 ≤ zp) : zHd (zUp zf zp.toNat (iN zv)) (zIp B zp zv) N := by
  intro p q1 q2
  show (if p.toNat = zp.toNat then iN zv else zf p.toNat) = iN (if p = zp then zv else B p)
  by_cases q3 : p = zp
  · rw [if_pos (by rw [q3]), if_pos q3]
  · rw [if_neg (by omega), if_neg q3]; exact q p q1 q2
set_option maxRecDepth 20000 in
set_option maxHeartbeats 4000000 in
theorem jt_hmade (zd : Nat) (q_d : 1 ≤ zd) {zh : am_H} {B : Int → Int} {zp : Int} (q_hd : zHd (zh.1 24) B 16) (q_p : 0 ≤ zp ∧ zp < 16) : am_wp zd am_m_ByHand_made 0 [(0, .ref 23), (1, .int (iN (zp)))] [] (78, 76) zh (78, 76) (fun rv h' => rv = some (.int (iN (B zp))) ∧ zh = h') := by
  obtain ⟨zd, rfl⟩ : ∃ y_e, zd = y_e + 1 := ⟨zd - 1, by omega⟩
  refine wp_run (k := 3) (pc1 := 5) (l1 := [(0, .ref 23), (1, .int (iN (zp)))]) (st1 := [.int (iN (zp)), .ref 24]) (kr1 := (78, 76)) (h1 := zh) rfl ?_
  refine wp_call (md1 := am_m_Lp_at) (As := [.ref 24, .int (iN (zp))]) (rest := []) (kr1 := (78, 76)) rfl (jt_at _ (by omega) (zn := 16) (zi := zp) (zv := iN (B (zp))) rfl rfl (by decide) (by omega) (by omega) (q_hd (zp) (by omega) (by omega))) ?_
  rintro _ _ ⟨rfl, rfl⟩
  refine wp_ret (rv := some (.int (iN (B (zp))))) rfl ?_
  exact ⟨rfl, rfl⟩
set_option maxRecDepth 20000 in
set_option maxHeartbeats 4000000 in
theorem jt_hmake (zd : Nat) (q_d : 1 ≤ zd) {zh : am_H} {zp zv : Int} (q_p : 0 ≤ zp ∧ zp < 16) : am_wp zd am_m_ByHand_make 0 [(0, .ref 23), (1, .int (iN (zp))), (2, .int (iN (zv)))] [] (78, 76) zh (78, 76) (fun rv h' => rv = none ∧ am_row zh 24 (zUp (zh.1 24) zp.toNat (iN zv)) = h') := by
  obtain ⟨zd, rfl⟩ : ∃ y_e, zd = y_e + 1 := ⟨zd - 1, by omega⟩
  refine wp_run (k := 4) (pc1 := 6) (l1 := [(0, .ref 23), (1, .int (iN (zp))), (2, .int (iN (zv)))]) (st1 := [.int (iN (zv)), .int (iN (zp)), .ref 24]) (kr1 := (78, 76)) (h1 := zh) rfl ?_
  refine wp_call (md1 := am_m_Lp_lay) (As := [.ref 24, .int (iN (zp)), .int (iN (zv))]) (rest := []) (kr1 := (78, 76)) rfl (jt_lay _ (by omega) (zn := 16) (zi := zp) (zv := iN (zv)) (by decide) (by decide) rfl rfl rfl (by decide) (by omega) (by omega)) ?_
  rintro _ _ ⟨rfl, rfl⟩
  refine wp_ret (rv := none) rfl ?_
  exact ⟨rfl, (am_wr_row _ _ _ _).symm⟩
set_option maxRecDepth 20000 in
set_option maxHeartbeats 4000000 in
theorem jl_hkeep (zd : Nat) (q_d : 1 ≤ zd) {zh : am_H} {zn : Int} (q_n : 0 ≤ zn ∧ zn ≤ 16) {zQ : Option Value → am_H → Prop} (zk : am_wp zd am_m_ByHand_keepFirst 28 [(0, .ref 23), (1, .int (iN (zn))), (2, .int (iN (16)))] [] (78, 76) (am_row zh 24 (zCq (zh.1 24) (fun _ => iN 0) zn.toNat (0 : Int).toNat (16 - zn : Int).toNat)) (78, 76) zQ) : ∀ (z_n : Nat) (zi : Int) (q_i : zn ≤ zi ∧ zi ≤ 16), 16 - zi < (z_n : Int) → am_wp zd am_m_ByHand_keepFirst 6 [(0, .ref 23), (1, .int (iN (zn))), (2, .int (iN (zi)))] [] (78, 76) (am_row zh 24 (zCq (zh.1 24) (fun _ => iN 0) zn.toNat (0 : Int).toNat (zi - zn : Int).toNat)) (78, 76) zQ := by
  obtain ⟨zd, rfl⟩ : ∃ y_e, zd = y_e + 1 := ⟨zd - 1, by omega⟩
  intro z_n
  induction z_n with
  | zero => intro zi q_i q_m; omega
  | succ z_n z_ih =>
    intro zi q_i q_m
    refine wp_run (k := 3) (pc1 := 11) (l1 := [(0, .ref 23), (1, .int (iN (zn))), (2, .int (iN (zi)))]) (st1 := [.ref 24, .int (iN (zi))]) (kr1 := (78, 76)) (h1 := am_row zh 24 (zCq (zh.1 24) (fun _ => iN 0) zn.toNat (0 : Int).toNat (zi - zn : Int).toNat)) rfl ?_
    refine wp_alen (v := 16) rfl rfl ?_
    refine wp_ge (a := zi) (b := 16) rfl (by omega) (by omega) (fun b_12 => ?_) (fun b_12 => ?_)
    · rw [show zi = 16 by omega]
      exact zk
    · refine wp_run (k := 4) (pc1 := 21) (l1 := [(0, .ref 23), (1, .int (iN (zn))), (2, .int (iN (zi)))]) (st1 := [.int (iN (0)), .int (iN (zi)), .ref 24]) (kr1 := (78, 76)) (h1 := am_row zh 24 (zCq (zh.1 24) (fun _ => iN 0) zn.toNat (0 : Int).toNat (zi - zn : Int).toNat)) rfl ?_
      refine wp_iast (z := zi) (j := (zi).toNat) (n := 16) rfl (by decide) (by decide) rfl rfl (by omega) (by omega) (by decide) ?_
      refine wp_run (k := 2) (pc1 := 6) (l1 := [(0, .ref 23), (1, .int (iN (zn))), (2, .int (iN ((zi) + 1)))]) (st1 := []) (kr1 := (78, 76)) (h1 := am_wr (am_row zh 24 (zCq (zh.1 24) (fun _ => iN 0) zn.toNat (0 : Int).toNat (zi - zn : Int).toNat)) 24 ((zi).toNat) (iN (0))) (Eq.trans (b := (some (6, [(0, .ref 23), (1, .int (iN (zn))), (2, .int ((iN (zi)) + iN (1)))], [], (78, 76), am_wr (am_row zh 24 (zCq (zh.1 24) (fun _ => iN 0) zn.toNat (0 : Int).toNat (zi - zn : Int).toNat)) 24 ((zi).toNat) (iN (0))) : Option am_C)) rfl (by simp only [Int32.ofInt_add, Int32.ofInt_sub, Int32.ofInt_mul, Int32.ofInt_neg])) ?_
      rw [zCq_w zh 24 (zh.1 24) (fun _ => iN 0) zn 0 (zi - zn) (by omega) (by omega) (by omega) (zj := zi) (by omega) rfl, show zi - zn + 1 = zi + 1 - zn by omega]
      exact z_ih (zi + 1) (by omega) (by omega)
set_option maxRecDepth 20000 in
set_option maxHeartbeats 4000000 in
theorem jt_hkeep (zd : Nat) (q_d : 1 ≤ zd) {zh : am_H} {B : Int → Int} {zn : Int} (q_hd : zHd (zh.1 24) B 16) (q_n : 0 ≤ zn ∧ zn ≤ 16) : am_wp zd am_m_ByHand_keepFirst 0 [(0, .ref 23), (1, .int (iN (zn)))] [] (78, 76) zh (78, 76) (fun rv h' => rv = none ∧ ∃ zf, am_row zh 24 zf = h' ∧ zHd zf (fun p => if p < zn then B p else 0) 16) := by
  obtain ⟨zd, rfl⟩ : ∃ y_e, zd = y_e + 1 := ⟨zd - 1, by omega⟩
  refine wp_run (k := 2) (pc1 := 2) (l1 := [(0, .ref 23), (1, .int (iN (zn)))]) (st1 := [.int (iN (zn)), .int (iN (0))]) (kr1 := (78, 76)) (h1 := zh) rfl ?_
  refine wp_now (rest := [.int (if iN (0) < iN (zn) then iN (zn) else iN (0))]) rfl ?_
  rw [show (if iN (0) < iN (zn) then iN (zn) else iN (0)) = iN (max (0) (zn)) from iN_max (by omega) (by omega)]
  refine wp_run (k := 1) (pc1 := 6) (l1 := [(0, .ref 23), (1, .int (iN (zn))), (2, .int (iN (max (0) (zn))))]) (st1 := []) (kr1 := (78, 76)) (h1 := zh) rfl ?_
  rw [show max 0 zn = zn by omega]
  refine Eq.mpr (congrArg (fun y_h => am_wp _ _ _ _ _ _ y_h _ _) (show zh = am_row zh 24 (zCq (zh.1 24) (fun _ => iN 0) zn.toNat (0 : Int).toNat (zn - zn : Int).toNat) from by rw [show (zn - zn).toNat = 0 by omega, zCq_0, am_row_id])) ?_
  refine jl_hkeep _ (by omega) q_n ?_ 17 zn (by omega) (by omega)
  refine wp_ret (rv := none) rfl ?_
  refine ⟨rfl, _, rfl, fun p q1 q2 => ?_⟩
  show _ = iN (if p < zn then B p else 0)
  by_cases q3 : p < zn
  · rw [if_pos q3, zCq_o _ _ (by omega)]; exact q_hd p q1 q2
  · rw [if_neg q3, zCq_i _ _ (by omega)]
set_option maxRecDepth 20000 in
set_option maxHeartbeats 4000000 in
theorem jl_hlike_23_53 (zd : Nat) (q_d : 1 ≤ zd) {zh : am_H}  {zQ : Option Value → am_H → Prop} (zk : am_wp zd am_m_ByHand_becomeLike 31 [(0, .ref 23), (1, .ref 53), (2, .int (iN (16)))] [] (78, 76) (am_row zh 24 (zCq (zh.1 24) (zh.1 54) (0 : Int).toNat (0 : Int).toNat (16 : Int).toNat)) (78, 76) zQ) : ∀ (z_n : Nat) (zi : Int) (q_i : 0 ≤ zi ∧ zi ≤ 16), 16 - zi < (z_n : Int) → am_wp zd am_m_ByHand_becomeLike 2 [(0, .ref 23), (1, .ref 53), (2, .int (iN (zi)))] [] (78, 76) (am_row zh 24 (zCq (zh.1 24) (zh.1 54) (0 : Int).toNat (0 : Int).toNat (zi : Int).toNat)) (78, 76) zQ := by
  obtain ⟨zd, rfl⟩ : ∃ y_e, zd = y_e + 1 := ⟨zd - 1, by omega⟩
  intro z_n
  induction z_n with
  | zero => intro zi q_i q_m; omega
  | succ z_n z_ih =>
    intro zi q_i q_m
    refine wp_run (k := 3) (pc1 := 7) (l1 := [(0, .ref 23), (1, .ref 53), (2, .int (iN (zi)))]) (st1 := [.ref 24, .int (iN (zi))]) (kr1 := (78, 76)) (h1 := am_row zh 24 (zCq (zh.1 24) (zh.1 54) (0 : Int).toNat (0 : Int).toNat (zi : Int).toNat)) rfl ?_
    refine wp_alen (v := 16) rfl rfl ?_
    refine wp_ge (a := zi) (b := 16) rfl (by omega) (by omega) (fun b_8 => ?_) (fun b_8 => ?_)
    · rw [show zi = 16 by omega]
      exact zk
    · refine wp_run (k := 6) (pc1 := 21) (l1 := [(0, .ref 23), (1, .ref 53), (2, .int (iN (zi)))]) (st1 := [.int (iN (zi)), .ref 54, .int (iN (zi)), .ref 24]) (kr1 := (78, 76)) (h1 := am_row zh 24 (zCq (zh.1 24) (zh.1 54) (0 : Int).toNat (0 : Int).toNat (zi : Int).toNat)) rfl ?_
      refine wp_call (md1 := am_m_Lp_at) (As := [.ref 54, .int (iN (zi))]) (rest := [.int (iN (zi)), .ref 24]) (kr1 := (78, 76)) rfl (jt_at _ (by omega) (zf := (am_row zh 24 (zCq (zh.1 24) (zh.1 54) (0 : Int).toNat (0 : Int).toNat (zi : Int).toNat)).1 54) (zn := 16) (zi := zi) (zv := zh.1 54 (0 + zi).toNat) rfl rfl (by decide) (by omega) (by omega) ((congrFun (am_row_n _ _ _ (by decide)) _).trans (congrArg (zh.1 54) (show (zi : Int).toNat = (0 + zi).toNat by omega)))) ?_
      rintro _ _ ⟨rfl, rfl⟩
      refine wp_iast (z := zi) (j := (zi).toNat) (n := 16) rfl (by decide) (by decide) rfl rfl (by omega) (by omega) (by decide) ?_
      refine wp_run (k := 2) (pc1 := 2) (l1 := [(0, .ref 23), (1, .ref 53), (2, .int (iN ((zi) + 1)))]) (st1 := []) (kr1 := (78, 76)) (h1 := am_wr (am_row zh 24 (zCq (zh.1 24) (zh.1 54) (0 : Int).toNat (0 : Int).toNat (zi : Int).toNat)) 24 ((zi).toNat) (zh.1 54 (0 + zi).toNat)) (Eq.trans (b := (some (2, [(0, .ref 23), (1, .ref 53), (2, .int ((iN (zi)) + iN (1)))], [], (78, 76), am_wr (am_row zh 24 (zCq (zh.1 24) (zh.1 54) (0 : Int).toNat (0 : Int).toNat (zi : Int).toNat)) 24 ((zi).toNat) (zh.1 54 (0 + zi).toNat)) : Option am_C)) rfl (by simp only [Int32.ofInt_add, Int32.ofInt_sub, Int32.ofInt_mul, Int32.ofInt_neg])) ?_
      rw [zCq_w zh 24 (zh.1 24) (zh.1 54) 0 0 zi (by omega) (by omega) (by omega) (zj := zi) (by omega) rfl]
      exact z_ih (zi + 1) (by omega) (by omega)
set_option maxRecDepth 20000 in
set_option maxHeartbeats 4000000 in
theorem jt_hlike_23_53 (zd : Nat) (q_d : 1 ≤ zd) {zh : am_H}  : am_wp zd am_m_ByHand_becomeLike 0 [(0, .ref 23), (1, .ref 53)] [] (78, 76) zh (78, 76) (fun rv h' => rv = none ∧ am_row zh 24 (zCq (zh.1 24) (zh.1 54) 0 0 16) = h') := by
  obtain ⟨zd, rfl⟩ : ∃ y_e, zd = y_e + 1 := ⟨zd - 1, by omega⟩
  refine wp_run (k := 2) (pc1 := 2) (l1 := [(0, .ref 23), (1, .ref 53), (2, .int (iN (0)))]) (st1 := []) (kr1 := (78, 76)) (h1 := zh) rfl ?_
  refine Eq.mpr (congrArg (fun y_h => am_wp _ _ _ _ _ _ y_h _ _) (show zh = am_row zh 24 (zCq (zh.1 24) (zh.1 54) (0 : Int).toNat (0 : Int).toNat (0 : Int).toNat) from by rw [show (0 : Int).toNat = 0 from rfl, zCq_0, am_row_id])) ?_
  refine jl_hlike_23_53 _ (by omega) ?_ 17 0 (by omega) (by omega)
  refine wp_ret (rv := none) rfl ?_
  exact ⟨rfl, rfl⟩
set_option maxRecDepth 20000 in
set_option maxHeartbeats 4000000 in
theorem jl_hlike_53_23 (zd : Nat) (q_d : 1 ≤ zd) {zh : am_H}  {zQ : Option Value → am_H → Prop} (zk : am_wp zd am_m_ByHand_becomeLike 31 [(0, .ref 53), (1, .ref 23), (2, .int (iN (16)))] [] (78, 76) (am_row zh 54 (zCq (zh.1 54) (zh.1 24) (0 : Int).toNat (0 : Int).toNat (16 : Int).toNat)) (78, 76) zQ) : ∀ (z_n : Nat) (zi : Int) (q_i : 0 ≤ zi ∧ zi ≤ 16), 16 - zi < (z_n : Int) → am_wp zd am_m_ByHand_becomeLike 2 [(0, .ref 53), (1, .ref 23), (2, .int (iN (zi)))] [] (78, 76) (am_row zh 54 (zCq (zh.1 54) (zh.1 24) (0 : Int).toNat (0 : Int).toNat (zi : Int).toNat)) (78, 76) zQ := by
  obtain ⟨zd, rfl⟩ : ∃ y_e, zd = y_e + 1 := ⟨zd - 1, by omega⟩
  intro z_n
  induction z_n with
  | zero => intro zi q_i q_m; omega
  | succ z_n z_ih =>
    intro zi q_i q_m
    refine wp_run (k := 3) (pc1 := 7) (l1 := [(0, .ref 53), (1, .ref 23), (2, .int (iN (zi)))]) (st1 := [.ref 54, .int (iN (zi))]) (kr1 := (78, 76)) (h1 := am_row zh 54 (zCq (zh.1 54) (zh.1 24) (0 : Int).toNat (0 : Int).toNat (zi : Int).toNat)) rfl ?_
    refine wp_alen (v := 16) rfl rfl ?_
    refine wp_ge (a := zi) (b := 16) rfl (by omega) (by omega) (fun b_8 => ?_) (fun b_8 => ?_)
    · rw [show zi = 16 by omega]
      exact zk
    · refine wp_run (k := 6) (pc1 := 21) (l1 := [(0, .ref 53), (1, .ref 23), (2, .int (iN (zi)))]) (st1 := [.int (iN (zi)), .ref 24, .int (iN (zi)), .ref 54]) (kr1 := (78, 76)) (h1 := am_row zh 54 (zCq (zh.1 54) (zh.1 24) (0 : Int).toNat (0 : Int).toNat (zi : Int).toNat)) rfl ?_
      refine wp_call (md1 := am_m_Lp_at) (As := [.ref 24, .int (iN (zi))]) (rest := [.int (iN (zi)), .ref 54]) (kr1 := (78, 76)) rfl (jt_at _ (by omega) (zf := (am_row zh 54 (zCq (zh.1 54) (zh.1 24) (0 : Int).toNat (0 : Int).toNat (zi : Int).toNat)).1 24) (zn := 16) (zi := zi) (zv := zh.1 24 (0 + zi).toNat) rfl rfl (by decide) (by omega) (by omega) ((congrFun (am_row_n _ _ _ (by decide)) _).trans (congrArg (zh.1 24) (show (zi : Int).toNat = (0 + zi).toNat by omega)))) ?_
      rintro _ _ ⟨rfl, rfl⟩
      refine wp_iast (z := zi) (j := (zi).toNat) (n := 16) rfl (by decide) (by decide) rfl rfl (by omega) (by omega) (by decide) ?_
      refine wp_run (k := 2) (pc1 := 2) (l1 := [(0, .ref 53), (1, .ref 23), (2, .int (iN ((zi) + 1)))]) (st1 := []) (kr1 := (78, 76)) (h1 := am_wr (am_row zh 54 (zCq (zh.1 54) (zh.1 24) (0 : Int).toNat (0 : Int).toNat (zi : Int).toNat)) 54 ((zi).toNat) (zh.1 24 (0 + zi).toNat)) (Eq.trans (b := (some (2, [(0, .ref 53), (1, .ref 23), (2, .int ((iN (zi)) + iN (1)))], [], (78, 76), am_wr (am_row zh 54 (zCq (zh.1 54) (zh.1 24) (0 : Int).toNat (0 : Int).toNat (zi : Int).toNat)) 54 ((zi).toNat) (zh.1 24 (0 + zi).toNat)) : Option am_C)) rfl (by simp only [Int32.ofInt_add, Int32.ofInt_sub, Int32.ofInt_mul, Int32.ofInt_neg])) ?_
      rw [zCq_w zh 54 (zh.1 54) (zh.1 24) 0 0 zi (by omega) (by omega) (by omega) (zj := zi) (by omega) rfl]
      exact z_ih (zi + 1) (by omega) (by omega)
set_option maxRecDepth 20000 in
set_option maxHeartbeats 4000000 in
theorem jt_hlike_53_23 (zd : Nat) (q_d : 1 ≤ zd) {zh : am_H}  : am_wp zd am_m_ByHand_becomeLike 0 [(0, .ref 53), (1, .ref 23)] [] (78, 76) zh (78, 76) (fun rv h' => rv = none ∧ am_row zh 54 (zCq (zh.1 54) (zh.1 24) 0 0 16) = h') := by
  obtain ⟨zd, rfl⟩ : ∃ y_e, zd = y_e + 1 := ⟨zd - 1, by omega⟩
  refine wp_run (k := 2) (pc1 := 2) (l1 := [(0, .ref 53), (1, .ref 23), (2, .int (iN (0)))]) (st1 := []) (kr1 := (78, 76)) (h1 := zh) rfl ?_
  refine Eq.mpr (congrArg (fun y_h => am_wp _ _ _ _ _ _ y_h _ _) (show zh = am_row zh 54 (zCq (zh.1 54) (zh.1 24) (0 : Int).toNat (0 : Int).toNat (0 : Int).toNat) from by rw [show (0 : Int).toNat = 0 from rfl, zCq_0, am_row_id])) ?_
  refine jl_hlike_53_23 _ (by omega) ?_ 17 0 (by omega) (by omega)
  refine wp_ret (rv := none) rfl ?_
  exact ⟨rfl, rfl⟩
set_option maxRecDepth 20000 in
set_option maxHeartbeats 4000000 in
theorem jl_hpieces (zd : Nat) (q_d : 0 ≤ zd) {zh : am_H} {B : Int → Int} (q_hd : zHd (zh.1 24) B 16) {zQ : Option Value → am_H → Prop} (zk : ∀ zv : Int, zv = zSi B 16 → zQ (some (.int (iN zv))) zh) : ∀ (z_n : Nat) (zi : Int) (zs : Int) (q_i : 0 ≤ zi ∧ zi ≤ 16) (q_z : zs = zSi B zi), 16 - zi < (z_n : Int) → am_wp zd am_m_ByHand_pieces 4 [(0, .ref 23), (1, .int (iN (zs))), (2, .int (iN (zi)))] [] (78, 76) zh (78, 76) zQ := by
  obtain ⟨zd, rfl⟩ : ∃ y_e, zd = y_e + 0 := ⟨zd - 0, by omega⟩
  intro z_n
  induction z_n with
  | zero => intro zi zs q_i q_z q_m; omega
  | succ z_n z_ih =>
    intro zi zs q_i q_z q_m
    refine wp_run (k := 3) (pc1 := 9) (l1 := [(0, .ref 23), (1, .int (iN (zs))), (2, .int (iN (zi)))]) (st1 := [.ref 24, .int (iN (zi))]) (kr1 := (78, 76)) (h1 := zh) rfl ?_
    refine wp_alen (v := 16) rfl rfl ?_
    refine wp_ge (a := zi) (b := 16) rfl (by omega) (by omega) (fun b_10 => ?_) (fun b_10 => ?_)
    · refine wp_run (k := 1) (pc1 := 29) (l1 := [(0, .ref 23), (1, .int (iN (zs))), (2, .int (iN (zi)))]) (st1 := [.int (iN (zs))]) (kr1 := (78, 76)) (h1 := zh) rfl ?_
      refine wp_ret (rv := some (.int (iN (zs)))) rfl ?_
      refine zk _ ?_
      rw [q_z, show zi = 16 by omega]
    · refine wp_run (k := 4) (pc1 := 19) (l1 := [(0, .ref 23), (1, .int (iN (zs))), (2, .int (iN (zi)))]) (st1 := [.int (iN (zi)), .ref 24, .int (iN (zs))]) (kr1 := (78, 76)) (h1 := zh) rfl ?_
      refine wp_iald (f := zh.1 24) (z := zi) (j := zi.toNat) (n := 16) (v := iN (B zi)) rfl rfl (by omega) (by omega) (by decide) (q_hd zi (by omega) (by omega)) ?_
      refine wp_run (k := 4) (pc1 := 4) (l1 := [(0, .ref 23), (1, .int (iN ((zs) + (B zi)))), (2, .int (iN ((zi) + 1)))]) (st1 := []) (kr1 := (78, 76)) (h1 := zh) (Eq.trans (b := (some (4, [(0, .ref 23), (1, .int ((iN (zs)) + (iN (B zi)))), (2, .int ((iN (zi)) + iN (1)))], [], (78, 76), zh) : Option am_C)) rfl (by simp only [Int32.ofInt_add, Int32.ofInt_sub, Int32.ofInt_mul, Int32.ofInt_neg])) ?_
      exact z_ih ((zi) + 1) ((zs) + (B zi)) (by omega) (by rw [q_z, zSi_s B zi (by omega)]) (by omega)
set_option maxRecDepth 20000 in
set_option maxHeartbeats 4000000 in
theorem jt_hpieces (zd : Nat) (q_d : 0 ≤ zd) {zh : am_H} {B : Int → Int} (q_hd : zHd (zh.1 24) B 16) : am_wp zd am_m_ByHand_pieces 0 [(0, .ref 23)] [] (78, 76) zh (78, 76) (fun rv h' => rv = some (.int (iN (zSi B 16))) ∧ zh = h') := by
  obtain ⟨zd, rfl⟩ : ∃ y_e, zd = y_e + 0 := ⟨zd - 0, by omega⟩
  refine wp_run (k := 4) (pc1 := 4) (l1 := [(0, .ref 23), (1, .int (iN (0))), (2, .int (iN (0)))]) (st1 := []) (kr1 := (78, 76)) (h1 := zh) rfl ?_
  exact jl_hpieces _ (by omega) q_hd (fun zv q_v => ⟨by rw [q_v], rfl⟩) 17 0 0 (by omega) rfl (by omega)
set_option maxRecDepth 20000 in
set_option maxHeartbeats 4000000 in
theorem jl_hcost (zd : Nat) (q_d : 2 ≤ zd) {zh : am_H} {B : Int → Int} {N : Int} {G : Int → Int → Int} {S T : Int} (q_nm : zNm (zh.1 1) (zh.1 2) N G S T) (q_g : zGk N G S T) (q_hd : zHd (zh.1 24) B 16) (q_hk : zHk N B) {zQ : Option Value → am_H → Prop} (zk : ∀ zv : Int, zv = zHi G B N → zQ (some (.int (iN zv))) zh) : ∀ (z_n : Nat) (zi : Int) (zt : Int) (zc : Int) (q_i : 0 ≤ zi ∧ zi ≤ N) (q_t : zt = zSi B zi - zPi G zi) (q_z : zc = zHi G B zi), N - zi < (z_n : Int) → am_wp zd am_m_ByHand_cost 7 [(0, .ref 23), (1, .ref 1), (2, .int (iN (zc))), (3, .int (iN (zt))), (4, .int (iN (zi)))] [] (78, 76) zh (78, 76) zQ := by
  obtain ⟨zd, rfl⟩ : ∃ y_e, zd = y_e + 2 := ⟨zd - 2, by omega⟩
  intro z_n
  induction z_n with
  | zero => intro zi zt zc q_i q_t q_z q_m; omega
  | succ z_n z_ih =>
    intro zi zt zc q_i q_t q_z q_m
    have q_N := q_g.1
    refine wp_run (k := 2) (pc1 := 10) (l1 := [(0, .ref 23), (1, .ref 1), (2, .int (iN (zc))), (3, .int (iN (zt))), (4, .int (iN (zi)))]) (st1 := [.ref 1, .int (iN (zi))]) (kr1 := (78, 76)) (h1 := zh) rfl ?_
    refine wp_call (md1 := am_m_Numbers_size) (As := [.ref 1]) (rest := [.int (iN (zi))]) (kr1 := (78, 76)) rfl (jt_size_1 _ (by omega) q_nm q_g) ?_
    rintro _ _ ⟨rfl, rfl⟩
    refine wp_ge (a := zi) (b := N) rfl (by omega) (by omega) (fun b_13 => ?_) (fun b_13 => ?_)
    · refine wp_run (k := 1) (pc1 := 83) (l1 := [(0, .ref 23), (1, .ref 1), (2, .int (iN (zc))), (3, .int (iN (zt))), (4, .int (iN (zi)))]) (st1 := [.int (iN (zc))]) (kr1 := (78, 76)) (h1 := zh) rfl ?_
      refine wp_ret (rv := some (.int (iN (zc)))) rfl ?_
      refine zk _ ?_
      rw [q_z, show zi = N by omega]
    · have y_b := zHk_b q_hk zi (by omega)
      have y_s := zSi_r q_hk zi (by omega)
      have y_p := zPi_rg q_g (a := 0) (b := zi) (by omega) (by omega) (by omega)
      have y_0 := zPi_0 G
      have y_d := q_g.2.1 0 zi (by omega) (by omega) (by omega) (by omega)
      have y_r := q_g.2.1 5 zi (by omega) (by omega) (by omega) (by omega)
      have y_v := (show vmax 0 = 99 from rfl)
      have y_w := (show vmax 5 = 999 from rfl)
      refine wp_run (k := 3) (pc1 := 22) (l1 := [(0, .ref 23), (1, .ref 1), (2, .int (iN (zc))), (3, .int (iN (zt))), (4, .int (iN (zi)))]) (st1 := [.int (iN (zi)), .ref 24]) (kr1 := (78, 76)) (h1 := zh) rfl ?_
      refine wp_call (md1 := am_m_Lp_at) (As := [.ref 24, .int (iN (zi))]) (rest := []) (kr1 := (78, 76)) rfl (jt_at _ (by omega) (zn := 16) (zi := zi) (zv := iN (B (zi))) rfl rfl (by decide) (by omega) (by omega) (q_hd (zi) (by omega) (by omega))) ?_
      rintro _ _ ⟨rfl, rfl⟩
      refine wp_run (k := 6) (pc1 := 34) (l1 := [(0, .ref 23), (1, .ref 1), (2, .int (iN (zc))), (3, .int (iN (zt))), (4, .int (iN (zi))), (5, .int (iN (B (zi))))]) (st1 := [.int (iN (0)), .int (iN (zi)), .ref 1, .int (iN (B (zi))), .int (iN (zt))]) (kr1 := (78, 76)) (h1 := zh) rfl ?_
      refine wp_call (md1 := am_m_Numbers_value) (As := [.ref 1, .int (iN (zi)), .int (iN (0))]) (rest := [.int (iN (B (zi))), .int (iN (zt))]) (kr1 := (78, 76)) rfl (jt_value_1 _ (by omega) q_nm q_g (zp := zi) (zw := 0) (by omega) (by omega)) ?_
      rintro _ _ ⟨rfl, rfl⟩
      refine wp_run (k := 4) (pc1 := 42) (l1 := [(0, .ref 23), (1, .ref 1), (2, .int (iN (zc))), (3, .int (iN ((zt) + ((B (zi)) - (G (0) (zi)))))), (4, .int (iN (zi))), (5, .int (iN (B (zi))))]) (st1 := [.int (iN (B (zi)))]) (kr1 := (78, 76)) (h1 := zh) (Eq.trans (b := (some (42, [(0, .ref 23), (1, .ref 1), (2, .int (iN (zc))), (3, .int ((iN (zt)) + ((iN (B (zi))) - (iN (G (0) (zi)))))), (4, .int (iN (zi))), (5, .int (iN (B (zi))))], [.int (iN (B (zi)))], (78, 76), zh) : Option am_C)) rfl (by simp only [Int32.ofInt_add, Int32.ofInt_sub, Int32.ofInt_mul, Int32.ofInt_neg])) ?_
      refine wp_le0 (a := B (zi)) rfl (by omega) (fun b_42 => ?_) (fun b_42 => ?_)
      · refine wp_run (k := 4) (pc1 := 71) (l1 := [(0, .ref 23), (1, .ref 1), (2, .int (iN (zc))), (3, .int (iN ((zt) + ((B (zi)) - (G (0) (zi)))))), (4, .int (iN (zi))), (5, .int (iN (B (zi))))]) (st1 := [.int (iN ((zt) + ((B (zi)) - (G (0) (zi))))), .int (iN (zi)), .ref 1, .int (iN (zc))]) (kr1 := (78, 76)) (h1 := zh) rfl ?_
        refine wp_call (md1 := am_m_Numbers_stockCost) (As := [.ref 1, .int (iN (zi)), .int (iN ((zt) + ((B (zi)) - (G (0) (zi)))))]) (rest := [.int (iN (zc))]) (kr1 := (78, 76)) rfl (jt_stockCost_1 _ (by omega) q_nm q_g (zp := zi) (zs := (zt) + ((B (zi)) - (G (0) (zi)))) (by omega) (by omega)) ?_
        rintro _ _ ⟨rfl, rfl⟩
        refine wp_run (k := 4) (pc1 := 7) (l1 := [(0, .ref 23), (1, .ref 1), (2, .int (iN ((zc) + (if 0 < (zt) + ((B (zi)) - (G (0) (zi))) then ((zt) + ((B (zi)) - (G (0) (zi)))) * G 3 (zi) else -((zt) + ((B (zi)) - (G (0) (zi)))) * G 4 (zi))))), (3, .int (iN ((zt) + ((B (zi)) - (G (0) (zi)))))), (4, .int (iN ((zi) + 1))), (5, .int (iN (B (zi))))]) (st1 := []) (kr1 := (78, 76)) (h1 := zh) (Eq.trans (b := (some (7, [(0, .ref 23), (1, .ref 1), (2, .int ((iN (zc)) + (iN (if 0 < (zt) + ((B (zi)) - (G (0) (zi))) then ((zt) + ((B (zi)) - (G (0) (zi)))) * G 3 (zi) else -((zt) + ((B (zi)) - (G (0) (zi)))) * G 4 (zi))))), (3, .int (iN ((zt) + ((B (zi)) - (G (0) (zi)))))), (4, .int ((iN (zi)) + iN (1))), (5, .int (iN (B (zi))))], [], (78, 76), zh) : Option am_C)) rfl (by simp only [Int32.ofInt_add, Int32.ofInt_sub, Int32.ofInt_mul, Int32.ofInt_neg])) ?_
        refine wp_drop [5] (l := [(0, .ref 23), (1, .ref 1), (2, .int (iN ((zc) + (if 0 < (zt) + ((B (zi)) - (G (0) (zi))) then ((zt) + ((B (zi)) - (G (0) (zi)))) * G 3 (zi) else -((zt) + ((B (zi)) - (G (0) (zi)))) * G 4 (zi))))), (3, .int (iN ((zt) + ((B (zi)) - (G (0) (zi)))))), (4, .int (iN ((zi) + 1)))]) rfl rfl ?_
        exact z_ih (zi + 1) ((zt) + ((B (zi)) - (G (0) (zi)))) ((zc) + (if 0 < (zt) + ((B (zi)) - (G (0) (zi))) then ((zt) + ((B (zi)) - (G (0) (zi)))) * G 3 (zi) else -((zt) + ((B (zi)) - (G (0) (zi)))) * G 4 (zi))) (by omega) (by rw [q_t, zSi_s B zi (by omega), zPi_s G zi (by omega)]; omega) (by
          have y_t : zt + (B zi - G 0 zi) = zSt G B zi := by unfold zSt; rw [q_t, zSi_s B zi (by omega), zPi_s G zi (by omega)]; omega
          rw [zHi_s G B zi (by omega), show (if 0 < B zi then G 1 zi + B zi * G 2 zi else 0) = 0 from if_neg (by omega), q_z]
          unfold zSc
          rw [← y_t]
          try omega) (by omega)
      · refine wp_run (k := 4) (pc1 := 50) (l1 := [(0, .ref 23), (1, .ref 1), (2, .int (iN (zc))), (3, .int (iN ((zt) + ((B (zi)) - (G (0) (zi)))))), (4, .int (iN (zi))), (5, .int (iN (B (zi))))]) (st1 := [.int (iN (1)), .int (iN (zi)), .ref 1, .int (iN (zc))]) (kr1 := (78, 76)) (h1 := zh) rfl ?_
        refine wp_call (md1 := am_m_Numbers_value) (As := [.ref 1, .int (iN (zi)), .int (iN (1))]) (rest := [.int (iN (zc))]) (kr1 := (78, 76)) rfl (jt_value_1 _ (by omega) q_nm q_g (zp := zi) (zw := 1) (by omega) (by omega)) ?_
        rintro _ _ ⟨rfl, rfl⟩
        refine wp_run (k := 4) (pc1 := 59) (l1 := [(0, .ref 23), (1, .ref 1), (2, .int (iN (zc))), (3, .int (iN ((zt) + ((B (zi)) - (G (0) (zi)))))), (4, .int (iN (zi))), (5, .int (iN (B (zi))))]) (st1 := [.int (iN (2)), .int (iN (zi)), .ref 1, .int (iN (B (zi))), .int (iN (G (1) (zi))), .int (iN (zc))]) (kr1 := (78, 76)) (h1 := zh) rfl ?_
        refine wp_call (md1 := am_m_Numbers_value) (As := [.ref 1, .int (iN (zi)), .int (iN (2))]) (rest := [.int (iN (B (zi))), .int (iN (G (1) (zi))), .int (iN (zc))]) (kr1 := (78, 76)) rfl (jt_value_1 _ (by omega) q_nm q_g (zp := zi) (zw := 2) (by omega) (by omega)) ?_
        rintro _ _ ⟨rfl, rfl⟩
        refine wp_run (k := 8) (pc1 := 71) (l1 := [(0, .ref 23), (1, .ref 1), (2, .int (iN ((zc) + ((G (1) (zi)) + ((B (zi)) * (G (2) (zi))))))), (3, .int (iN ((zt) + ((B (zi)) - (G (0) (zi)))))), (4, .int (iN (zi))), (5, .int (iN (B (zi))))]) (st1 := [.int (iN ((zt) + ((B (zi)) - (G (0) (zi))))), .int (iN (zi)), .ref 1, .int (iN ((zc) + ((G (1) (zi)) + ((B (zi)) * (G (2) (zi))))))]) (kr1 := (78, 76)) (h1 := zh) (Eq.trans (b := (some (71, [(0, .ref 23), (1, .ref 1), (2, .int ((iN (zc)) + ((iN (G (1) (zi))) + ((iN (B (zi))) * (iN (G (2) (zi))))))), (3, .int (iN ((zt) + ((B (zi)) - (G (0) (zi)))))), (4, .int (iN (zi))), (5, .int (iN (B (zi))))], [.int (iN ((zt) + ((B (zi)) - (G (0) (zi))))), .int (iN (zi)), .ref 1, .int ((iN (zc)) + ((iN (G (1) (zi))) + ((iN (B (zi))) * (iN (G (2) (zi))))))], (78, 76), zh) : Option am_C)) rfl (by simp only [Int32.ofInt_add, Int32.ofInt_sub, Int32.ofInt_mul, Int32.ofInt_neg])) ?_
        refine wp_call (md1 := am_m_Numbers_stockCost) (As := [.ref 1, .int (iN (zi)), .int (iN ((zt) + ((B (zi)) - (G (0) (zi)))))]) (rest := [.int (iN ((zc) + ((G (1) (zi)) + ((B (zi)) * (G (2) (zi))))))]) (kr1 := (78, 76)) rfl (jt_stockCost_1 _ (by omega) q_nm q_g (zp := zi) (zs := (zt) + ((B (zi)) - (G (0) (zi)))) (by omega) (by omega)) ?_
        rintro _ _ ⟨rfl, rfl⟩
        refine wp_run (k := 4) (pc1 := 7) (l1 := [(0, .ref 23), (1, .ref 1), (2, .int (iN (((zc) + ((G (1) (zi)) + ((B (zi)) * (G (2) (zi))))) + (if 0 < (zt) + ((B (zi)) - (G (0) (zi))) then ((zt) + ((B (zi)) - (G (0) (zi)))) * G 3 (zi) else -((zt) + ((B (zi)) - (G (0) (zi)))) * G 4 (zi))))), (3, .int (iN ((zt) + ((B (zi)) - (G (0) (zi)))))), (4, .int (iN ((zi) + 1))), (5, .int (iN (B (zi))))]) (st1 := []) (kr1 := (78, 76)) (h1 := zh) (Eq.trans (b := (some (7, [(0, .ref 23), (1, .ref 1), (2, .int ((iN ((zc) + ((G (1) (zi)) + ((B (zi)) * (G (2) (zi)))))) + (iN (if 0 < (zt) + ((B (zi)) - (G (0) (zi))) then ((zt) + ((B (zi)) - (G (0) (zi)))) * G 3 (zi) else -((zt) + ((B (zi)) - (G (0) (zi)))) * G 4 (zi))))), (3, .int (iN ((zt) + ((B (zi)) - (G (0) (zi)))))), (4, .int ((iN (zi)) + iN (1))), (5, .int (iN (B (zi))))], [], (78, 76), zh) : Option am_C)) rfl (by simp only [Int32.ofInt_add, Int32.ofInt_sub, Int32.ofInt_mul, Int32.ofInt_neg])) ?_
        refine wp_drop [5] (l := [(0, .ref 23), (1, .ref 1), (2, .int (iN (((zc) + ((G (1) (zi)) + ((B (zi)) * (G (2) (zi))))) + (if 0 < (zt) + ((B (zi)) - (G (0) (zi))) then ((zt) + ((B (zi)) - (G (0) (zi)))) * G 3 (zi) else -((zt) + ((B (zi)) - (G (0) (zi)))) * G 4 (zi))))), (3, .int (iN ((zt) + ((B (zi)) - (G (0) (zi)))))), (4, .int (iN ((zi) + 1)))]) rfl rfl ?_
        exact z_ih (zi + 1) ((zt) + ((B (zi)) - (G (0) (zi)))) (((zc) + ((G (1) (zi)) + ((B (zi)) * (G (2) (zi))))) + (if 0 < (zt) + ((B (zi)) - (G (0) (zi))) then ((zt) + ((B (zi)) - (G (0) (zi)))) * G 3 (zi) else -((zt) + ((B (zi)) - (G (0) (zi)))) * G 4 (zi))) (by omega) (by rw [q_t, zSi_s B zi (by omega), zPi_s G zi (by omega)]; omega) (by
          have y_t : zt + (B zi - G 0 zi) = zSt G B zi := by unfold zSt; rw [q_t, zSi_s B zi (by omega), zPi_s G zi (by omega)]; omega
          rw [zHi_s G B zi (by omega), show (if 0 < B zi then G 1 zi + B zi * G 2 zi else 0) = G 1 zi + B zi * G 2 zi from if_pos (by omega), q_z]
          unfold zSc
          rw [← y_t]
          try omega) (by omega)
set_option maxRecDepth 20000 in
set_option maxHeartbeats 4000000 in
theorem jl_hwrong (zd : Nat) (q_d : 2 ≤ zd) {zh : am_H} {B : Int → Int} {N : Int} {G : Int → Int → Int} {S T : Int} (q_nm : zNm (zh.1 1) (zh.1 2) N G S T) (q_g : zGk N G S T) (q_hd : zHd (zh.1 24) B 16) (q_hk : zHk N B) {zQ : Option Value → am_H → Prop} (zk : ∀ zv : Int, zFst N (zWr N G S T B) zv → zQ (some (.int (iN zv))) zh) : ∀ (z_n : Nat) (zi : Int) (zt : Int) (q_i : 0 ≤ zi ∧ zi ≤ N) (q_t : zt = zSi B zi - zPi G zi) (q_w : ∀ p : Int, 0 ≤ p → p < zi → ¬ zWr N G S T B p), N - zi < (z_n : Int) → am_wp zd am_m_ByHand_wrong 4 [(0, .ref 23), (1, .ref 1), (2, .int (iN (zt))), (3, .int (iN (zi)))] [] (78, 76) zh (78, 76) zQ := by
  obtain ⟨zd, rfl⟩ : ∃ y_e, zd = y_e + 2 := ⟨zd - 2, by omega⟩
  intro z_n
  induction z_n with
  | zero => intro zi zt q_i q_t q_w q_m; omega
  | succ z_n z_ih =>
    intro zi zt q_i q_t q_w q_m
    have q_N := q_g.1
    have q_S := q_g.2.2.1
    have q_T := q_g.2.2.2
    refine wp_run (k := 2) (pc1 := 6) (l1 := [(0, .ref 23), (1, .ref 1), (2, .int (iN (zt))), (3, .int (iN (zi)))]) (st1 := [.ref 1, .int (iN (zi))]) (kr1 := (78, 76)) (h1 := zh) rfl ?_
    refine wp_call (md1 := am_m_Numbers_size) (As := [.ref 1]) (rest := [.int (iN (zi))]) (kr1 := (78, 76)) rfl (jt_size_1 _ (by omega) q_nm q_g) ?_
    rintro _ _ ⟨rfl, rfl⟩
    refine wp_ge (a := zi) (b := N) rfl (by omega) (by omega) (fun b_9 => ?_) (fun b_9 => ?_)
    · refine wp_run (k := 1) (pc1 := 94) (l1 := [(0, .ref 23), (1, .ref 1), (2, .int (iN (zt))), (3, .int (iN (zi)))]) (st1 := [.int (iN (-2))]) (kr1 := (78, 76)) (h1 := zh) rfl ?_
      refine wp_ret (rv := some (.int (iN (-2)))) rfl ?_
      refine zk _ (Or.inr ⟨rfl, fun p q1 q2 => q_w p q1 (by omega)⟩)
    · have y_b := zHk_b q_hk zi (by omega)
      have y_s := zSi_r q_hk zi (by omega)
      have y_p := zPi_rg q_g (a := 0) (b := zi) (by omega) (by omega) (by omega)
      have y_0 := zPi_0 G
      have y_d := q_g.2.1 0 zi (by omega) (by omega) (by omega) (by omega)
      have y_r := q_g.2.1 5 zi (by omega) (by omega) (by omega) (by omega)
      have y_v := (show vmax 0 = 99 from rfl)
      have y_w := (show vmax 5 = 999 from rfl)
      have y_t : zt + (B zi - G 0 zi) = zSt G B zi := by unfold zSt; rw [q_t, zSi_s B zi (by omega), zPi_s G zi (by omega)]; omega
      refine wp_run (k := 4) (pc1 := 18) (l1 := [(0, .ref 23), (1, .ref 1), (2, .int (iN (zt))), (3, .int (iN (zi)))]) (st1 := [.int (iN (zi)), .ref 24, .int (iN (zt))]) (kr1 := (78, 76)) (h1 := zh) rfl ?_
      refine wp_call (md1 := am_m_Lp_at) (As := [.ref 24, .int (iN (zi))]) (rest := [.int (iN (zt))]) (kr1 := (78, 76)) rfl (jt_at _ (by omega) (zn := 16) (zi := zi) (zv := iN (B (zi))) rfl rfl (by decide) (by omega) (by omega) (q_hd (zi) (by omega) (by omega))) ?_
      rintro _ _ ⟨rfl, rfl⟩
      refine wp_run (k := 3) (pc1 := 24) (l1 := [(0, .ref 23), (1, .ref 1), (2, .int (iN (zt))), (3, .int (iN (zi)))]) (st1 := [.int (iN (0)), .int (iN (zi)), .ref 1, .int (iN (B (zi))), .int (iN (zt))]) (kr1 := (78, 76)) (h1 := zh) rfl ?_
      refine wp_call (md1 := am_m_Numbers_value) (As := [.ref 1, .int (iN (zi)), .int (iN (0))]) (rest := [.int (iN (B (zi))), .int (iN (zt))]) (kr1 := (78, 76)) rfl (jt_value_1 _ (by omega) q_nm q_g (zp := zi) (zw := 0) (by omega) (by omega)) ?_
      rintro _ _ ⟨rfl, rfl⟩
      refine wp_run (k := 6) (pc1 := 35) (l1 := [(0, .ref 23), (1, .ref 1), (2, .int (iN ((zt) + ((B (zi)) - (G (0) (zi)))))), (3, .int (iN (zi)))]) (st1 := [.int (iN (zi)), .ref 24]) (kr1 := (78, 76)) (h1 := zh) (Eq.trans (b := (some (35, [(0, .ref 23), (1, .ref 1), (2, .int ((iN (zt)) + ((iN (B (zi))) - (iN (G (0) (zi)))))), (3, .int (iN (zi)))], [.int (iN (zi)), .ref 24], (78, 76), zh) : Option am_C)) rfl (by simp only [Int32.ofInt_add, Int32.ofInt_sub, Int32.ofInt_mul, Int32.ofInt_neg])) ?_
      refine wp_call (md1 := am_m_Lp_at) (As := [.ref 24, .int (iN (zi))]) (rest := []) (kr1 := (78, 76)) rfl (jt_at _ (by omega) (zn := 16) (zi := zi) (zv := iN (B (zi))) rfl rfl (by decide) (by omega) (by omega) (q_hd (zi) (by omega) (by omega))) ?_
      rintro _ _ ⟨rfl, rfl⟩
      refine wp_run (k := 3) (pc1 := 41) (l1 := [(0, .ref 23), (1, .ref 1), (2, .int (iN ((zt) + ((B (zi)) - (G (0) (zi)))))), (3, .int (iN (zi)))]) (st1 := [.int (iN (5)), .int (iN (zi)), .ref 1, .int (iN (B (zi)))]) (kr1 := (78, 76)) (h1 := zh) rfl ?_
      refine wp_call (md1 := am_m_Numbers_value) (As := [.ref 1, .int (iN (zi)), .int (iN (5))]) (rest := [.int (iN (B (zi)))]) (kr1 := (78, 76)) rfl (jt_value_1 _ (by omega) q_nm q_g (zp := zi) (zw := 5) (by omega) (by omega)) ?_
      rintro _ _ ⟨rfl, rfl⟩
      refine wp_gt (a := B (zi)) (b := G (5) (zi)) rfl (by omega) (by omega) (fun b_44 => ?_) (fun b_44 => ?_)
      · refine wp_run (k := 1) (pc1 := 56) (l1 := [(0, .ref 23), (1, .ref 1), (2, .int (iN ((zt) + ((B (zi)) - (G (0) (zi)))))), (3, .int (iN (zi)))]) (st1 := [.int (iN (zi))]) (kr1 := (78, 76)) (h1 := zh) rfl ?_
        refine wp_ret (rv := some (.int (iN (zi)))) rfl ?_
        refine zk _ (Or.inl ⟨by omega, by omega, by unfold zWr; rw [← y_t]; omega, q_w⟩)
      · refine wp_run (k := 2) (pc1 := 49) (l1 := [(0, .ref 23), (1, .ref 1), (2, .int (iN ((zt) + ((B (zi)) - (G (0) (zi)))))), (3, .int (iN (zi)))]) (st1 := [.ref 1, .int (iN ((zt) + ((B (zi)) - (G (0) (zi)))))]) (kr1 := (78, 76)) (h1 := zh) rfl ?_
        refine wp_call (md1 := am_m_Numbers_store) (As := [.ref 1]) (rest := [.int (iN ((zt) + ((B (zi)) - (G (0) (zi)))))]) (kr1 := (78, 76)) rfl (jt_store_1 _ (by omega) q_nm q_g) ?_
        rintro _ _ ⟨rfl, rfl⟩
        refine wp_le (a := (zt) + ((B (zi)) - (G (0) (zi)))) (b := S) rfl (by omega) (by omega) (fun b_52 => ?_) (fun b_52 => ?_)
        · refine wp_run (k := 1) (pc1 := 58) (l1 := [(0, .ref 23), (1, .ref 1), (2, .int (iN ((zt) + ((B (zi)) - (G (0) (zi)))))), (3, .int (iN (zi)))]) (st1 := [.int (iN ((zt) + ((B (zi)) - (G (0) (zi)))))]) (kr1 := (78, 76)) (h1 := zh) rfl ?_
          refine wp_ge0 (a := (zt) + ((B (zi)) - (G (0) (zi)))) rfl (by omega) (fun b_58 => ?_) (fun b_58 => ?_)
          · refine wp_run (k := 1) (pc1 := 71) (l1 := [(0, .ref 23), (1, .ref 1), (2, .int (iN ((zt) + ((B (zi)) - (G (0) (zi)))))), (3, .int (iN (zi)))]) (st1 := [.int (iN ((zt) + ((B (zi)) - (G (0) (zi)))))]) (kr1 := (78, 76)) (h1 := zh) rfl ?_
            refine wp_eq0 (a := (zt) + ((B (zi)) - (G (0) (zi)))) rfl (by omega) (fun b_71 => ?_) (fun b_71 => ?_)
            · refine wp_run (k := 2) (pc1 := 4) (l1 := [(0, .ref 23), (1, .ref 1), (2, .int (iN ((zt) + ((B (zi)) - (G (0) (zi)))))), (3, .int (iN ((zi) + 1)))]) (st1 := []) (kr1 := (78, 76)) (h1 := zh) (Eq.trans (b := (some (4, [(0, .ref 23), (1, .ref 1), (2, .int (iN ((zt) + ((B (zi)) - (G (0) (zi)))))), (3, .int ((iN (zi)) + iN (1)))], [], (78, 76), zh) : Option am_C)) rfl (by simp only [Int32.ofInt_add, Int32.ofInt_sub, Int32.ofInt_mul, Int32.ofInt_neg])) ?_
              exact z_ih (zi + 1) ((zt) + ((B (zi)) - (G (0) (zi)))) (by omega) (by rw [q_t, zSi_s B zi (by omega), zPi_s G zi (by omega)]; omega) (fun p q1 q2 => by
                by_cases q3 : p = zi
                · subst q3; unfold zWr; rw [← y_t]; omega
                · exact q_w p q1 (by omega)) (by omega)
            · refine wp_run (k := 2) (pc1 := 76) (l1 := [(0, .ref 23), (1, .ref 1), (2, .int (iN ((zt) + ((B (zi)) - (G (0) (zi)))))), (3, .int (iN (zi)))]) (st1 := [.ref 1, .int (iN (zi))]) (kr1 := (78, 76)) (h1 := zh) rfl ?_
              refine wp_call (md1 := am_m_Numbers_size) (As := [.ref 1]) (rest := [.int (iN (zi))]) (kr1 := (78, 76)) rfl (jt_size_1 _ (by omega) q_nm q_g) ?_
              rintro _ _ ⟨rfl, rfl⟩
              refine wp_run (k := 2) (pc1 := 81) (l1 := [(0, .ref 23), (1, .ref 1), (2, .int (iN ((zt) + ((B (zi)) - (G (0) (zi)))))), (3, .int (iN (zi)))]) (st1 := [.int (iN ((N) - (1))), .int (iN (zi))]) (kr1 := (78, 76)) (h1 := zh) (Eq.trans (b := (some (81, [(0, .ref 23), (1, .ref 1), (2, .int (iN ((zt) + ((B (zi)) - (G (0) (zi)))))), (3, .int (iN (zi)))], [.int ((iN (N)) - (iN (1))), .int (iN (zi))], (78, 76), zh) : Option am_C)) rfl (by simp only [Int32.ofInt_add, Int32.ofInt_sub, Int32.ofInt_mul, Int32.ofInt_neg])) ?_
              refine wp_ne (a := zi) (b := (N) - (1)) rfl (by omega) (by omega) (fun b_81 => ?_) (fun b_81 => ?_)
              · refine wp_run (k := 2) (pc1 := 4) (l1 := [(0, .ref 23), (1, .ref 1), (2, .int (iN ((zt) + ((B (zi)) - (G (0) (zi)))))), (3, .int (iN ((zi) + 1)))]) (st1 := []) (kr1 := (78, 76)) (h1 := zh) (Eq.trans (b := (some (4, [(0, .ref 23), (1, .ref 1), (2, .int (iN ((zt) + ((B (zi)) - (G (0) (zi)))))), (3, .int ((iN (zi)) + iN (1)))], [], (78, 76), zh) : Option am_C)) rfl (by simp only [Int32.ofInt_add, Int32.ofInt_sub, Int32.ofInt_mul, Int32.ofInt_neg])) ?_
                exact z_ih (zi + 1) ((zt) + ((B (zi)) - (G (0) (zi)))) (by omega) (by rw [q_t, zSi_s B zi (by omega), zPi_s G zi (by omega)]; omega) (fun p q1 q2 => by
                  by_cases q3 : p = zi
                  · subst q3; unfold zWr; rw [← y_t]; omega
                  · exact q_w p q1 (by omega)) (by omega)
              · refine wp_run (k := 1) (pc1 := 85) (l1 := [(0, .ref 23), (1, .ref 1), (2, .int (iN ((zt) + ((B (zi)) - (G (0) (zi)))))), (3, .int (iN (zi)))]) (st1 := [.int (iN (zi))]) (kr1 := (78, 76)) (h1 := zh) rfl ?_
                refine wp_ret (rv := some (.int (iN (zi)))) rfl ?_
                refine zk _ (Or.inl ⟨by omega, by omega, by unfold zWr; rw [← y_t]; omega, q_w⟩)
          · refine wp_run (k := 1) (pc1 := 62) (l1 := [(0, .ref 23), (1, .ref 1), (2, .int (iN ((zt) + ((B (zi)) - (G (0) (zi)))))), (3, .int (iN (zi)))]) (st1 := [.ref 1]) (kr1 := (78, 76)) (h1 := zh) rfl ?_
            refine wp_call (md1 := am_m_Numbers_lateMayBe) (As := [.ref 1]) (rest := []) (kr1 := (78, 76)) rfl (jt_lateMayBe_1 _ (by omega) q_nm q_g) ?_
            rintro _ _ ⟨rfl, rfl⟩
            refine wp_ne0 (a := T) rfl (by omega) (fun b_65 => ?_) (fun b_65 => ?_)
            · refine wp_run (k := 1) (pc1 := 71) (l1 := [(0, .ref 23), (1, .ref 1), (2, .int (iN ((zt) + ((B (zi)) - (G (0) (zi)))))), (3, .int (iN (zi)))]) (st1 := [.int (iN ((zt) + ((B (zi)) - (G (0) (zi)))))]) (kr1 := (78, 76)) (h1 := zh) rfl ?_
              refine wp_eq0 (a := (zt) + ((B (zi)) - (G (0) (zi)))) rfl (by omega) (fun b_71 => ?_) (fun b_71 => ?_)
              · refine wp_run (k := 2) (pc1 := 4) (l1 := [(0, .ref 23), (1, .ref 1), (2, .int (iN ((zt) + ((B (zi)) - (G (0) (zi)))))), (3, .int (iN ((zi) + 1)))]) (st1 := []) (kr1 := (78, 76)) (h1 := zh) (Eq.trans (b := (some (4, [(0, .ref 23), (1, .ref 1), (2, .int (iN ((zt) + ((B (zi)) - (G (0) (zi)))))), (3, .int ((iN (zi)) + iN (1)))], [], (78, 76), zh) : Option am_C)) rfl (by simp only [Int32.ofInt_add, Int32.ofInt_sub, Int32.ofInt_mul, Int32.ofInt_neg])) ?_
                exact z_ih (zi + 1) ((zt) + ((B (zi)) - (G (0) (zi)))) (by omega) (by rw [q_t, zSi_s B zi (by omega), zPi_s G zi (by omega)]; omega) (fun p q1 q2 => by
                  by_cases q3 : p = zi
                  · subst q3; unfold zWr; rw [← y_t]; omega
                  · exact q_w p q1 (by omega)) (by omega)
              · refine wp_run (k := 2) (pc1 := 76) (l1 := [(0, .ref 23), (1, .ref 1), (2, .int (iN ((zt) + ((B (zi)) - (G (0) (zi)))))), (3, .int (iN (zi)))]) (st1 := [.ref 1, .int (iN (zi))]) (kr1 := (78, 76)) (h1 := zh) rfl ?_
                refine wp_call (md1 := am_m_Numbers_size) (As := [.ref 1]) (rest := [.int (iN (zi))]) (kr1 := (78, 76)) rfl (jt_size_1 _ (by omega) q_nm q_g) ?_
                rintro _ _ ⟨rfl, rfl⟩
                refine wp_run (k := 2) (pc1 := 81) (l1 := [(0, .ref 23), (1, .ref 1), (2, .int (iN ((zt) + ((B (zi)) - (G (0) (zi)))))), (3, .int (iN (zi)))]) (st1 := [.int (iN ((N) - (1))), .int (iN (zi))]) (kr1 := (78, 76)) (h1 := zh) (Eq.trans (b := (some (81, [(0, .ref 23), (1, .ref 1), (2, .int (iN ((zt) + ((B (zi)) - (G (0) (zi)))))), (3, .int (iN (zi)))], [.int ((iN (N)) - (iN (1))), .int (iN (zi))], (78, 76), zh) : Option am_C)) rfl (by simp only [Int32.ofInt_add, Int32.ofInt_sub, Int32.ofInt_mul, Int32.ofInt_neg])) ?_
                refine wp_ne (a := zi) (b := (N) - (1)) rfl (by omega) (by omega) (fun b_81 => ?_) (fun b_81 => ?_)
                · refine wp_run (k := 2) (pc1 := 4) (l1 := [(0, .ref 23), (1, .ref 1), (2, .int (iN ((zt) + ((B (zi)) - (G (0) (zi)))))), (3, .int (iN ((zi) + 1)))]) (st1 := []) (kr1 := (78, 76)) (h1 := zh) (Eq.trans (b := (some (4, [(0, .ref 23), (1, .ref 1), (2, .int (iN ((zt) + ((B (zi)) - (G (0) (zi)))))), (3, .int ((iN (zi)) + iN (1)))], [], (78, 76), zh) : Option am_C)) rfl (by simp only [Int32.ofInt_add, Int32.ofInt_sub, Int32.ofInt_mul, Int32.ofInt_neg])) ?_
                  exact z_ih (zi + 1) ((zt) + ((B (zi)) - (G (0) (zi)))) (by omega) (by rw [q_t, zSi_s B zi (by omega), zPi_s G zi (by omega)]; omega) (fun p q1 q2 => by
                    by_cases q3 : p = zi
                    · subst q3; unfold zWr; rw [← y_t]; omega
                    · exact q_w p q1 (by omega)) (by omega)
                · refine wp_run (k := 1) (pc1 := 85) (l1 := [(0, .ref 23), (1, .ref 1), (2, .int (iN ((zt) + ((B (zi)) - (G (0) (zi)))))), (3, .int (iN (zi)))]) (st1 := [.int (iN (zi))]) (kr1 := (78, 76)) (h1 := zh) rfl ?_
                  refine wp_ret (rv := some (.int (iN (zi)))) rfl ?_
                  refine zk _ (Or.inl ⟨by omega, by omega, by unfold zWr; rw [← y_t]; omega, q_w⟩)
            · refine wp_run (k := 1) (pc1 := 69) (l1 := [(0, .ref 23), (1, .ref 1), (2, .int (iN ((zt) + ((B (zi)) - (G (0) (zi)))))), (3, .int (iN (zi)))]) (st1 := [.int (iN (zi))]) (kr1 := (78, 76)) (h1 := zh) rfl ?_
              refine wp_ret (rv := some (.int (iN (zi)))) rfl ?_
              refine zk _ (Or.inl ⟨by omega, by omega, by unfold zWr; rw [← y_t]; omega, q_w⟩)
        · refine wp_run (k := 1) (pc1 := 56) (l1 := [(0, .ref 23), (1, .ref 1), (2, .int (iN ((zt) + ((B (zi)) - (G (0) (zi)))))), (3, .int (iN (zi)))]) (st1 := [.int (iN (zi))]) (kr1 := (78, 76)) (h1 := zh) rfl ?_
          refine wp_ret (rv := some (.int (iN (zi)))) rfl ?_
          refine zk _ (Or.inl ⟨by omega, by omega, by unfold zWr; rw [← y_t]; omega, q_w⟩)
set_option maxRecDepth 20000 in
set_option maxHeartbeats 4000000 in
theorem jt_hcost (zd : Nat) (q_d : 2 ≤ zd) {zh : am_H} {B : Int → Int} {N : Int} {G : Int → Int → Int} {S T : Int} (q_nm : zNm (zh.1 1) (zh.1 2) N G S T) (q_g : zGk N G S T) (q_hd : zHd (zh.1 24) B 16) (q_hk : zHk N B) : am_wp zd am_m_ByHand_cost 0 [(0, .ref 23), (1, .ref 1)] [] (78, 76) zh (78, 76) (fun rv h' => rv = some (.int (iN (zHi G B N))) ∧ zh = h') := by
  obtain ⟨zd, rfl⟩ : ∃ y_e, zd = y_e + 2 := ⟨zd - 2, by omega⟩
  have q_N := q_g.1
  refine wp_run (k := 6) (pc1 := 7) (l1 := [(0, .ref 23), (1, .ref 1), (2, .int (iN (0))), (3, .int (iN (0))), (4, .int (iN (0)))]) (st1 := []) (kr1 := (78, 76)) (h1 := zh) rfl ?_
  exact jl_hcost _ (by omega) q_nm q_g q_hd q_hk (fun zv q_v => ⟨by rw [q_v], rfl⟩) 17 0 0 0 (by omega) rfl rfl (by omega)
set_option maxRecDepth 20000 in
set_option maxHeartbeats 4000000 in
theorem jt_hwrong (zd : Nat) (q_d : 2 ≤ zd) {zh : am_H} {B : Int → Int} {N : Int} {G : Int → Int → Int} {S T : Int} (q_nm : zNm (zh.1 1) (zh.1 2) N G S T) (q_g : zGk N G S T) (q_hd : zHd (zh.1 24) B 16) (q_hk : zHk N B) : am_wp zd am_m_ByHand_wrong 0 [(0, .ref 23), (1, .ref 1)] [] (78, 76) zh (78, 76) (fun rv h' => ∃ zv : Int, rv = some (.int (iN zv)) ∧ zFst N (zWr N G S T B) zv ∧ zh = h') := by
  obtain ⟨zd, rfl⟩ : ∃ y_e, zd = y_e + 2 := ⟨zd - 2, by omega⟩
  have q_N := q_g.1
  refine wp_run (k := 4) (pc1 := 4) (l1 := [(0, .ref 23), (1, .ref 1), (2, .int (iN (0))), (3, .int (iN (0)))]) (st1 := []) (kr1 := (78, 76)) (h1 := zh) rfl ?_
  exact jl_hwrong _ (by omega) q_nm q_g q_hd q_hk (fun zv q_v => ⟨zv, rfl, q_v, rfl⟩) 17 0 0 (by omega) rfl (fun p q1 q2 => by omega) (by omega)
set_option maxRecDepth 20000 in
set_option maxHeartbeats 4000000 in
theorem jt_hbehind (zd : Nat) (q_d : 2 ≤ zd) {zh : am_H} {B : Int → Int} {N : Int} {G : Int → Int → Int} {S T : Int} (q_nm : zNm (zh.1 1) (zh.1 2) N G S T) (q_g : zGk N G S T) (q_hd : zHd (zh.1 24) B 16) (q_hk : zHk N B) : am_wp zd am_m_ByHand_stockBehind 0 [(0, .ref 23), (1, .ref 1)] [] (78, 76) zh (78, 76) (fun rv h' => rv = some (.int (iN (zSt G B (N - 1)))) ∧ zh = h') := by
  obtain ⟨zd, rfl⟩ : ∃ y_e, zd = y_e + 2 := ⟨zd - 2, by omega⟩
  have q_N := q_g.1
  refine wp_run (k := 1) (pc1 := 1) (l1 := [(0, .ref 23), (1, .ref 1)]) (st1 := [.ref 23]) (kr1 := (78, 76)) (h1 := zh) rfl ?_
  refine wp_call (md1 := am_m_ByHand_pieces) (As := [.ref 23]) (rest := []) (kr1 := (78, 76)) rfl (jt_hpieces _ (by omega) q_hd) ?_
  rintro _ _ ⟨rfl, rfl⟩
  refine wp_run (k := 3) (pc1 := 7) (l1 := [(0, .ref 23), (1, .ref 1)]) (st1 := [.ref 1, .int (iN (0)), .ref 1, .int (iN (zSi B 16))]) (kr1 := (78, 76)) (h1 := zh) rfl ?_
  refine wp_call (md1 := am_m_Numbers_size) (As := [.ref 1]) (rest := [.int (iN (0)), .ref 1, .int (iN (zSi B 16))]) (kr1 := (78, 76)) rfl (jt_size_1 _ (by omega) q_nm q_g) ?_
  rintro _ _ ⟨rfl, rfl⟩
  refine wp_run (k := 2) (pc1 := 12) (l1 := [(0, .ref 23), (1, .ref 1)]) (st1 := [.int (iN ((N) - (1))), .int (iN (0)), .ref 1, .int (iN (zSi B 16))]) (kr1 := (78, 76)) (h1 := zh) (Eq.trans (b := (some (12, [(0, .ref 23), (1, .ref 1)], [.int ((iN (N)) - (iN (1))), .int (iN (0)), .ref 1, .int (iN (zSi B 16))], (78, 76), zh) : Option am_C)) rfl (by simp only [Int32.ofInt_add, Int32.ofInt_sub, Int32.ofInt_mul, Int32.ofInt_neg])) ?_
  refine wp_call (md1 := am_m_Numbers_pieces) (As := [.ref 1, .int (iN (0)), .int (iN ((N) - (1)))]) (rest := [.int (iN (zSi B 16))]) (kr1 := (78, 76)) rfl (jt_pieces_1 _ (by omega) q_nm q_g (za := 0) (zb := (N) - (1)) (by omega)) ?_
  rintro _ _ ⟨rfl, rfl⟩
  refine wp_run (k := 1) (pc1 := 16) (l1 := [(0, .ref 23), (1, .ref 1)]) (st1 := [.int (iN ((zSi B 16) - (zD G (0) ((N) - (1)))))]) (kr1 := (78, 76)) (h1 := zh) (Eq.trans (b := (some (16, [(0, .ref 23), (1, .ref 1)], [.int ((iN (zSi B 16)) - (iN (zD G (0) ((N) - (1)))))], (78, 76), zh) : Option am_C)) rfl (by simp only [Int32.ofInt_add, Int32.ofInt_sub, Int32.ofInt_mul, Int32.ofInt_neg])) ?_
  refine wp_ret (rv := some (.int (iN ((zSi B 16) - (zD G (0) ((N) - (1))))))) rfl ?_
  refine ⟨?_, rfl⟩
  rw [zSi_e q_hk (by omega) (M := 16) (by omega)]
  unfold zD zSt
  rw [show N - 1 + 1 = N by omega, zPi_0, Int.sub_zero]
