/-! THE CLASS's Plan: partCost -/
theorem zEn_f {cC cM cS : Nat} {zh zg : am_H} {G : Int → Int → Int} {T a b : Int} {k : Nat} {ks : List Nat} (q_f : am_fr ks zh zg) (q1 : cC ∉ ks) (q2 : cM ∉ ks) (q3 : cS ∉ ks) (q : zEn cC cM cS zh G T a b k) : zEn cC cM cS zg G T a b k := by
  unfold zEn
  rw [q_f.2 _ q1, q_f.2 _ q2, q_f.2 _ q3]
  exact q
theorem zLots_f {cC cM cS cA : Nat} {zh zg : am_H} {N : Int} {G : Int → Int → Int} {T : Int} {ks : List Nat} (q_f : am_fr ks zh zg) (q1 : cC ∉ ks) (q2 : cM ∉ ks) (q3 : cS ∉ ks) (q4 : cA ∉ ks) (q : zLots cC cM cS cA zh N G T) : zLots cC cM cS cA zg N G T := by
  refine ⟨?_, fun a b y1 y2 y3 => zEn_f q_f q1 q2 q3 (q.2 a b y1 y2 y3)⟩
  rw [q_f.2 _ q4]
  exact q.1
/-- the class's rows of a part that ends with n, from a on -/
def zRow (cB cE cY : Nat) (zg : am_H) (G : Int → Int → Int) (T n a : Int) : Prop := ∀ x : Int, a ≤ x → x ≤ n → zg.1 cB x.toNat = iN (zPv G T n x).1 ∧ zg.1 cE x.toNat = iN (zPv G T n x).2.1 ∧ zg.1 cY x.toNat = iN (zPv G T n x).2.2
theorem zRow_s {cB cE cY : Nat} {zg : am_H} {G : Int → Int → Int} {T n a : Int} (q_d : cB ≠ cE ∧ cB ≠ cY ∧ cE ≠ cY) (q_a : 0 ≤ a ∧ a ≤ n) {s : Int × Int × Int} (q_s : s = zPv G T n a) (q : zRow cB cE cY zg G T n (a + 1)) : zRow cB cE cY (am_wr (am_wr (am_wr zg cB a.toNat (iN s.1)) cE a.toNat (iN s.2.1)) cY a.toNat (iN s.2.2)) G T n a := by
  intro x y1 y2
  subst q_s
  by_cases y3 : x = a
  · subst y3
    rw [am_wr_ne q_d.2.1, am_wr_ne q_d.1, am_wr_at, am_wr_ne q_d.2.2, am_wr_at, am_wr_at]
    exact ⟨rfl, rfl, rfl⟩
  · have y4 := q x (by omega) y2
    rw [am_wr_ne q_d.2.1, am_wr_ne q_d.1, am_wr_no (by omega), am_wr_ne q_d.2.2, am_wr_no (by omega), am_wr_ne q_d.1.symm, am_wr_no (by omega), am_wr_ne q_d.2.2.symm, am_wr_ne q_d.2.1.symm]
    exact y4
set_option maxRecDepth 20000 in
set_option maxHeartbeats 4000000 in
theorem jl_part_3 (zd : Nat) (q_d : 3 ≤ zd) {zh : am_H} {N : Int} {G : Int → Int → Int} {S T : Int} {za zn : Int} (q_g : zGk N G S T) (q_lo : zLots 5 6 7 8 zh N G T) (q_0 : 0 ≤ za ∧ za ≤ zn ∧ zn ≤ N) {zQ : Option Value → am_H → Prop} (zk : ∀ zg : am_H, am_fr [9, 10, 11] zh zg → zRow 9 10 11 zg G T zn za → zQ (some (.int (iN (zPv G T zn za).1))) zg) : ∀ (z_n : Nat) (zg : am_H) (zi : Int) (q_f : am_fr [9, 10, 11] zh zg) (q_i : za - 1 ≤ zi ∧ zi ≤ zn) (q_w : zRow 9 10 11 zg G T zn (zi + 1)), zi + 2 - za < (z_n : Int) → am_wp zd am_m_Plan_partCost 2 [(0, .ref 3), (1, .int (iN (za))), (2, .int (iN (zn))), (3, .int (iN (zi)))] [] (78, 76) zg (78, 76) zQ := by
  obtain ⟨zd, rfl⟩ : ∃ y_e, zd = y_e + 3 := ⟨zd - 3, by omega⟩
  intro z_n
  induction z_n with
  | zero => intro zg zi q_f q_i q_w q_m; omega
  | succ z_n z_ih =>
    intro zg zi q_f q_i q_w q_m
    have q_N := q_g.1
    have y_r : ∀ x : Int, za ≤ x → x ≤ zn → 0 ≤ (zPv G T zn x).1 ∧ (zPv G T zn x).1 ≤ 6000000 ∧ 0 ≤ (zPv G T zn x).2.2 ∧ (zPv G T zn x).2.2 ≤ 9999 := fun x y1 y2 => zPv_rg q_g (by omega) zn.toNat (by omega) x (by omega) y2
    refine wp_run (k := 2) (pc1 := 4) (l1 := [(0, .ref 3), (1, .int (iN (za))), (2, .int (iN (zn))), (3, .int (iN (zi)))]) (st1 := [.int (iN (za)), .int (iN (zi))]) (kr1 := (78, 76)) (h1 := zg) rfl ?_
    refine wp_lt (a := zi) (b := za) rfl (by omega) (by omega) (fun b_4 => ?_) (fun b_4 => ?_)
    · refine wp_run (k := 3) (pc1 := 24) (l1 := [(0, .ref 3), (1, .int (iN (za))), (2, .int (iN (zn))), (3, .int (iN (zi)))]) (st1 := [.int (iN (za)), .ref 9]) (kr1 := (78, 76)) (h1 := zg) rfl ?_
      refine wp_call (md1 := am_m_Lp_at) (As := [.ref 9, .int (iN (za))]) (rest := []) (kr1 := (78, 76)) rfl (jt_at _ (by omega) (zn := 17) (zi := za) (zv := iN (zPv G T zn za).1) rfl rfl (by decide) (by omega) (by omega) ((q_w za (by omega) (by omega)).1)) ?_
      rintro _ _ ⟨rfl, rfl⟩
      refine wp_ret (rv := some (.int (iN (zPv G T zn za).1))) rfl ?_
      exact zk zg q_f (fun x y1 y2 => q_w x (by omega) y2)
    · refine wp_run (k := 3) (pc1 := 10) (l1 := [(0, .ref 3), (1, .int (iN (za))), (2, .int (iN (zn))), (3, .int (iN (zi)))]) (st1 := [.int (iN (zn)), .int (iN (zi)), .ref 3]) (kr1 := (78, 76)) (h1 := zg) rfl ?_
      refine wp_call (md1 := am_m_Plan_reckonPart) (As := [.ref 3, .int (iN (zi)), .int (iN (zn))]) (rest := []) (kr1 := (78, 76)) rfl (jt_rpart_3 (V := fun y => (zPv G T zn y).1) (W := fun y => (zPv G T zn y).2.2) _ (by omega) q_g (zLots_f q_f (by decide) (by decide) (by decide) (by decide) q_lo) (za := zi) (zn := zn) (by omega) (fun x y1 y2 => ⟨(q_w x (by omega) y2).1, (y_r x (by omega) y2).1, by have y3 := (y_r x (by omega) y2).2.1; omega⟩) (fun x y1 y2 => ⟨(q_w x (by omega) y2).2.2, (y_r x (by omega) y2).2.2⟩)) ?_
      rintro _ _ ⟨rfl, rfl⟩
      refine wp_run (k := 2) (pc1 := 2) (l1 := [(0, .ref 3), (1, .int (iN (za))), (2, .int (iN (zn))), (3, .int (iN ((zi) + (-1))))]) (st1 := []) (kr1 := (78, 76)) (h1 := am_wr (am_wr (am_wr zg 9 zi.toNat (iN (zPs G T zn (fun y => (zPv G T zn y).1) (fun y => (zPv G T zn y).2.2) zi).1)) 10 zi.toNat (iN (zPs G T zn (fun y => (zPv G T zn y).1) (fun y => (zPv G T zn y).2.2) zi).2.1)) 11 zi.toNat (iN (zPs G T zn (fun y => (zPv G T zn y).1) (fun y => (zPv G T zn y).2.2) zi).2.2)) (Eq.trans (b := (some (2, [(0, .ref 3), (1, .int (iN (za))), (2, .int (iN (zn))), (3, .int ((iN (zi)) + iN (-1)))], [], (78, 76), am_wr (am_wr (am_wr zg 9 zi.toNat (iN (zPs G T zn (fun y => (zPv G T zn y).1) (fun y => (zPv G T zn y).2.2) zi).1)) 10 zi.toNat (iN (zPs G T zn (fun y => (zPv G T zn y).1) (fun y => (zPv G T zn y).2.2) zi).2.1)) 11 zi.toNat (iN (zPs G T zn (fun y => (zPv G T zn y).1) (fun y => (zPv G T zn y).2.2) zi).2.2)) : Option am_C)) rfl (by simp only [Int32.ofInt_add, Int32.ofInt_sub, Int32.ofInt_mul, Int32.ofInt_neg])) ?_
      exact z_ih _ (zi + (-1)) (am_fr_w (am_fr_w (am_fr_w q_f (by decide) _ _) (by decide) _ _) (by decide) _ _) (by omega) (by rw [show zi + (-1) + 1 = zi by omega]; exact zRow_s (by decide) (by omega) (zPv_ss G T zn zi (by omega)).symm q_w) (by omega)
set_option maxRecDepth 20000 in
set_option maxHeartbeats 4000000 in
theorem jt_part_3 (zd : Nat) (q_d : 3 ≤ zd) {zh : am_H} {N : Int} {G : Int → Int → Int} {S T : Int} {za zn : Int} (q_g : zGk N G S T) (q_lo : zLots 5 6 7 8 zh N G T) (q_0 : 0 ≤ za ∧ za ≤ zn ∧ zn ≤ N) : am_wp zd am_m_Plan_partCost 0 [(0, .ref 3), (1, .int (iN (za))), (2, .int (iN (zn)))] [] (78, 76) zh (78, 76) (fun rv h' => rv = some (.int (iN (zPv G T zn za).1)) ∧ am_fr [9, 10, 11] zh h' ∧ zRow 9 10 11 h' G T zn za) := by
  obtain ⟨zd, rfl⟩ : ∃ y_e, zd = y_e + 3 := ⟨zd - 3, by omega⟩
  have q_N := q_g.1
  refine wp_run (k := 2) (pc1 := 2) (l1 := [(0, .ref 3), (1, .int (iN (za))), (2, .int (iN (zn))), (3, .int (iN (zn)))]) (st1 := []) (kr1 := (78, 76)) (h1 := zh) rfl ?_
  exact jl_part_3 (S := S) _ (by omega) q_g q_lo q_0 (fun zg y1 y2 => ⟨rfl, y1, y2⟩) 20 zh zn (am_fr_0 _ _) (by omega) (fun x y1 y2 => by omega) (by omega)
set_option maxRecDepth 20000 in
set_option maxHeartbeats 4000000 in
theorem jl_part_36 (zd : Nat) (q_d : 3 ≤ zd) {zh : am_H} {N : Int} {G : Int → Int → Int} {S T : Int} {za zn : Int} (q_g : zGk N G S T) (q_lo : zLots 38 39 40 41 zh N G T) (q_0 : 0 ≤ za ∧ za ≤ zn ∧ zn ≤ N) {zQ : Option Value → am_H → Prop} (zk : ∀ zg : am_H, am_fr [42, 43, 44] zh zg → zRow 42 43 44 zg G T zn za → zQ (some (.int (iN (zPv G T zn za).1))) zg) : ∀ (z_n : Nat) (zg : am_H) (zi : Int) (q_f : am_fr [42, 43, 44] zh zg) (q_i : za - 1 ≤ zi ∧ zi ≤ zn) (q_w : zRow 42 43 44 zg G T zn (zi + 1)), zi + 2 - za < (z_n : Int) → am_wp zd am_m_Plan_partCost 2 [(0, .ref 36), (1, .int (iN (za))), (2, .int (iN (zn))), (3, .int (iN (zi)))] [] (78, 76) zg (78, 76) zQ := by
  obtain ⟨zd, rfl⟩ : ∃ y_e, zd = y_e + 3 := ⟨zd - 3, by omega⟩
  intro z_n
  induction z_n with
  | zero => intro zg zi q_f q_i q_w q_m; omega
  | succ z_n z_ih =>
    intro zg zi q_f q_i q_w q_m
    have q_N := q_g.1
    have y_r : ∀ x : Int, za ≤ x → x ≤ zn → 0 ≤ (zPv G T zn x).1 ∧ (zPv G T zn x).1 ≤ 6000000 ∧ 0 ≤ (zPv G T zn x).2.2 ∧ (zPv G T zn x).2.2 ≤ 9999 := fun x y1 y2 => zPv_rg q_g (by omega) zn.toNat (by omega) x (by omega) y2
    refine wp_run (k := 2) (pc1 := 4) (l1 := [(0, .ref 36), (1, .int (iN (za))), (2, .int (iN (zn))), (3, .int (iN (zi)))]) (st1 := [.int (iN (za)), .int (iN (zi))]) (kr1 := (78, 76)) (h1 := zg) rfl ?_
    refine wp_lt (a := zi) (b := za) rfl (by omega) (by omega) (fun b_4 => ?_) (fun b_4 => ?_)
    · refine wp_run (k := 3) (pc1 := 24) (l1 := [(0, .ref 36), (1, .int (iN (za))), (2, .int (iN (zn))), (3, .int (iN (zi)))]) (st1 := [.int (iN (za)), .ref 42]) (kr1 := (78, 76)) (h1 := zg) rfl ?_
      refine wp_call (md1 := am_m_Lp_at) (As := [.ref 42, .int (iN (za))]) (rest := []) (kr1 := (78, 76)) rfl (jt_at _ (by omega) (zn := 17) (zi := za) (zv := iN (zPv G T zn za).1) rfl rfl (by decide) (by omega) (by omega) ((q_w za (by omega) (by omega)).1)) ?_
      rintro _ _ ⟨rfl, rfl⟩
      refine wp_ret (rv := some (.int (iN (zPv G T zn za).1))) rfl ?_
      exact zk zg q_f (fun x y1 y2 => q_w x (by omega) y2)
    · refine wp_run (k := 3) (pc1 := 10) (l1 := [(0, .ref 36), (1, .int (iN (za))), (2, .int (iN (zn))), (3, .int (iN (zi)))]) (st1 := [.int (iN (zn)), .int (iN (zi)), .ref 36]) (kr1 := (78, 76)) (h1 := zg) rfl ?_
      refine wp_call (md1 := am_m_Plan_reckonPart) (As := [.ref 36, .int (iN (zi)), .int (iN (zn))]) (rest := []) (kr1 := (78, 76)) rfl (jt_rpart_36 (V := fun y => (zPv G T zn y).1) (W := fun y => (zPv G T zn y).2.2) _ (by omega) q_g (zLots_f q_f (by decide) (by decide) (by decide) (by decide) q_lo) (za := zi) (zn := zn) (by omega) (fun x y1 y2 => ⟨(q_w x (by omega) y2).1, (y_r x (by omega) y2).1, by have y3 := (y_r x (by omega) y2).2.1; omega⟩) (fun x y1 y2 => ⟨(q_w x (by omega) y2).2.2, (y_r x (by omega) y2).2.2⟩)) ?_
      rintro _ _ ⟨rfl, rfl⟩
      refine wp_run (k := 2) (pc1 := 2) (l1 := [(0, .ref 36), (1, .int (iN (za))), (2, .int (iN (zn))), (3, .int (iN ((zi) + (-1))))]) (st1 := []) (kr1 := (78, 76)) (h1 := am_wr (am_wr (am_wr zg 42 zi.toNat (iN (zPs G T zn (fun y => (zPv G T zn y).1) (fun y => (zPv G T zn y).2.2) zi).1)) 43 zi.toNat (iN (zPs G T zn (fun y => (zPv G T zn y).1) (fun y => (zPv G T zn y).2.2) zi).2.1)) 44 zi.toNat (iN (zPs G T zn (fun y => (zPv G T zn y).1) (fun y => (zPv G T zn y).2.2) zi).2.2)) (Eq.trans (b := (some (2, [(0, .ref 36), (1, .int (iN (za))), (2, .int (iN (zn))), (3, .int ((iN (zi)) + iN (-1)))], [], (78, 76), am_wr (am_wr (am_wr zg 42 zi.toNat (iN (zPs G T zn (fun y => (zPv G T zn y).1) (fun y => (zPv G T zn y).2.2) zi).1)) 43 zi.toNat (iN (zPs G T zn (fun y => (zPv G T zn y).1) (fun y => (zPv G T zn y).2.2) zi).2.1)) 44 zi.toNat (iN (zPs G T zn (fun y => (zPv G T zn y).1) (fun y => (zPv G T zn y).2.2) zi).2.2)) : Option am_C)) rfl (by simp only [Int32.ofInt_add, Int32.ofInt_sub, Int32.ofInt_mul, Int32.ofInt_neg])) ?_
      exact z_ih _ (zi + (-1)) (am_fr_w (am_fr_w (am_fr_w q_f (by decide) _ _) (by decide) _ _) (by decide) _ _) (by omega) (by rw [show zi + (-1) + 1 = zi by omega]; exact zRow_s (by decide) (by omega) (zPv_ss G T zn zi (by omega)).symm q_w) (by omega)
set_option maxRecDepth 20000 in
set_option maxHeartbeats 4000000 in
theorem jt_part_36 (zd : Nat) (q_d : 3 ≤ zd) {zh : am_H} {N : Int} {G : Int → Int → Int} {S T : Int} {za zn : Int} (q_g : zGk N G S T) (q_lo : zLots 38 39 40 41 zh N G T) (q_0 : 0 ≤ za ∧ za ≤ zn ∧ zn ≤ N) : am_wp zd am_m_Plan_partCost 0 [(0, .ref 36), (1, .int (iN (za))), (2, .int (iN (zn)))] [] (78, 76) zh (78, 76) (fun rv h' => rv = some (.int (iN (zPv G T zn za).1)) ∧ am_fr [42, 43, 44] zh h' ∧ zRow 42 43 44 h' G T zn za) := by
  obtain ⟨zd, rfl⟩ : ∃ y_e, zd = y_e + 3 := ⟨zd - 3, by omega⟩
  have q_N := q_g.1
  refine wp_run (k := 2) (pc1 := 2) (l1 := [(0, .ref 36), (1, .int (iN (za))), (2, .int (iN (zn))), (3, .int (iN (zn)))]) (st1 := []) (kr1 := (78, 76)) (h1 := zh) rfl ?_
  exact jl_part_36 (S := S) _ (by omega) q_g q_lo q_0 (fun zg y1 y2 => ⟨rfl, y1, y2⟩) 20 zh zn (am_fr_0 _ _) (by omega) (fun x y1 y2 => by omega) (by omega)
