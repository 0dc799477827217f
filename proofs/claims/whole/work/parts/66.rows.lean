/-! THE CLASS's methods: rows -/
theorem wp_cle {d : Nat} {md : am_MD} {pc tg : Nat} {l : am_LV} {st rest : List Value} {kr kr' : Nat × Nat} {h : am_H} {Q : Option Value → am_H → Prop} {x y : Int64} {a b : Int} (hx : x.toInt = a) (hy : y.toInt = b) (e : am_bra md pc st = some (decide (lg_cmp x y ≤ 0), tg, rest)) (kt : a ≤ b → am_wp d md tg l rest kr h kr' Q) (kf : ¬ a ≤ b → am_wp d md (pc + 3) l rest kr h kr' Q) : am_wp d md pc l st kr h kr' Q := by
  have y1 : decide (lg_cmp x y ≤ 0) = !decide (0 < lg_cmp x y) := by
    by_cases q : 0 < lg_cmp x y
    · rw [decide_eq_true q, decide_eq_false (Int32.not_le.mpr q)]; rfl
    · rw [decide_eq_false q, decide_eq_true (Int32.not_lt.mp q)]; rfl
  rw [y1, lg_gt0, hx, hy] at e
  exact wp_bra e (fun z => kt (by have := of_decide_eq_false (show decide (b < a) = false by simpa using z); omega)) (fun z => kf (by have := of_decide_eq_true (show decide (b < a) = true by simpa using z); omega))
/-- ints stand as they stood, longs but in the cell c -/
def zF2 (c : Nat) (zh zg : am_H) : Prop := zg.1 = zh.1 ∧ ∀ c' : Nat, c' ≠ c → zg.2 c' = zh.2 c'
theorem zF2_w {c : Nat} {zh zg : am_H} (q : zF2 c zh zg) (j : Nat) (v : Int64) : zF2 c zh (am_wl zg c j v) := ⟨q.1, fun c' y => by
  refine Eq.trans ?_ (q.2 c' y)
  funext k
  exact if_neg (fun z => y z.1)⟩
theorem am_wl_at (zg : am_H) (c j : Nat) (v : Int64) : (am_wl zg c j v).2 c j = v := if_pos ⟨rfl, rfl⟩
theorem am_wl_no (zg : am_H) (c : Nat) {j k : Nat} (v : Int64) (q : k ≠ j) : (am_wl zg c j v).2 c k = zg.2 c k := if_neg (fun z => q z.2)
set_option maxRecDepth 20000 in
set_option maxHeartbeats 4000000 in
theorem jt_rvalue (zd : Nat) (q_d : 1 ≤ zd) {zh : am_H} {zs zi : Int} (q_s : 0 ≤ zs ∧ zs < 4) (q_i : 0 ≤ zi ∧ zi < 20) : am_wp zd am_m_Shelves_value 0 [(0, .ref 31), (1, .int (iN (zs))), (2, .int (iN (zi)))] [] (78, 76) zh (78, 76) (fun rv h' => rv = some (.long (zh.2 32 (20 * zs + zi).toNat)) ∧ zh = h') := by
  obtain ⟨zd, rfl⟩ : ∃ y_e, zd = y_e + 1 := ⟨zd - 1, by omega⟩
  refine wp_run (k := 3) (pc1 := 3) (l1 := [(0, .ref 31), (1, .int (iN (zs))), (2, .int (iN (zi)))]) (st1 := [.int (iN (zi)), .int (iN (zs)), .ref 31]) (kr1 := (78, 76)) (h1 := zh) rfl ?_
  refine wp_call (md1 := am_m_Shelves_placeOf) (As := [.ref 31, .int (iN (zs)), .int (iN (zi))]) (rest := []) (kr1 := (78, 76)) rfl (jt_placeOf _ (by omega)) ?_
  rintro _ _ ⟨rfl, rfl⟩
  refine wp_run (k := 4) (pc1 := 12) (l1 := [(0, .ref 31), (1, .int (iN (zs))), (2, .int (iN (zi))), (3, .int (iN (zs * 20 + zi)))]) (st1 := [.ref 32, .int (iN (zs * 20 + zi))]) (kr1 := (78, 76)) (h1 := zh) rfl ?_
  refine wp_alen (v := 80) rfl rfl ?_
  refine wp_call (md1 := am_m_Lp_inside) (As := [.int (iN (zs * 20 + zi)), .int (iN (80))]) (rest := []) (kr1 := (78, 76)) rfl (jt_inside _ (by omega) (zi := zs * 20 + zi) (ze := 80) (by omega) (by omega)) ?_
  rintro _ _ ⟨rfl, rfl⟩
  refine wp_eqb rfl (fun b_16 => ?_) (fun b_16 => ?_)
  · exact absurd (show 0 ≤ zs * 20 + zi ∧ zs * 20 + zi < 80 by omega) b_16
  · refine wp_run (k := 3) (pc1 := 24) (l1 := [(0, .ref 31), (1, .int (iN (zs))), (2, .int (iN (zi))), (3, .int (iN (zs * 20 + zi)))]) (st1 := [.int (iN (zs * 20 + zi)), .ref 32]) (kr1 := (78, 76)) (h1 := zh) rfl ?_
    refine wp_lald (z := zs * 20 + zi) (j := (20 * zs + zi).toNat) (n := 80) (v := (zh.2 32 (20 * zs + zi).toNat)) rfl (by decide) (by decide) rfl rfl (by omega) (by omega) (by decide) rfl ?_
    refine wp_run (k := 1) (pc1 := 29) (l1 := [(0, .ref 31), (1, .int (iN (zs))), (2, .int (iN (zi))), (3, .int (iN (zs * 20 + zi)))]) (st1 := [.long ((zh.2 32 (20 * zs + zi).toNat))]) (kr1 := (78, 76)) (h1 := zh) rfl ?_
    refine wp_ret (rv := some (.long ((zh.2 32 (20 * zs + zi).toNat)))) rfl ?_
    exact ⟨rfl, rfl⟩
set_option maxRecDepth 20000 in
set_option maxHeartbeats 4000000 in
theorem jt_rstore (zd : Nat) (q_d : 1 ≤ zd) {zh : am_H} {zs zi : Int} {zx : Int64} (q_s : 0 ≤ zs ∧ zs < 4) (q_i : 0 ≤ zi ∧ zi < 20) : am_wp zd am_m_Shelves_store 0 [(0, .ref 31), (1, .int (iN (zs))), (2, .int (iN (zi))), (3, .long (zx))] [] (78, 76) zh (78, 76) (fun rv h' => rv = none ∧ am_wl zh 32 (20 * zs + zi).toNat zx = h') := by
  obtain ⟨zd, rfl⟩ : ∃ y_e, zd = y_e + 1 := ⟨zd - 1, by omega⟩
  refine wp_run (k := 3) (pc1 := 3) (l1 := [(0, .ref 31), (1, .int (iN (zs))), (2, .int (iN (zi))), (3, .long (zx))]) (st1 := [.int (iN (zi)), .int (iN (zs)), .ref 31]) (kr1 := (78, 76)) (h1 := zh) rfl ?_
  refine wp_call (md1 := am_m_Shelves_placeOf) (As := [.ref 31, .int (iN (zs)), .int (iN (zi))]) (rest := []) (kr1 := (78, 76)) rfl (jt_placeOf _ (by omega)) ?_
  rintro _ _ ⟨rfl, rfl⟩
  refine wp_run (k := 4) (pc1 := 14) (l1 := [(0, .ref 31), (1, .int (iN (zs))), (2, .int (iN (zi))), (3, .long (zx)), (5, .int (iN (zs * 20 + zi)))]) (st1 := [.ref 32, .int (iN (zs * 20 + zi))]) (kr1 := (78, 76)) (h1 := zh) rfl ?_
  refine wp_alen (v := 80) rfl rfl ?_
  refine wp_call (md1 := am_m_Lp_inside) (As := [.int (iN (zs * 20 + zi)), .int (iN (80))]) (rest := []) (kr1 := (78, 76)) rfl (jt_inside _ (by omega) (zi := zs * 20 + zi) (ze := 80) (by omega) (by omega)) ?_
  rintro _ _ ⟨rfl, rfl⟩
  refine wp_eqb rfl (fun b_18 => ?_) (fun b_18 => ?_)
  · exact absurd (show 0 ≤ zs * 20 + zi ∧ zs * 20 + zi < 80 by omega) b_18
  · refine wp_run (k := 4) (pc1 := 28) (l1 := [(0, .ref 31), (1, .int (iN (zs))), (2, .int (iN (zi))), (3, .long (zx)), (5, .int (iN (zs * 20 + zi)))]) (st1 := [.long (zx), .int (iN (zs * 20 + zi)), .ref 32]) (kr1 := (78, 76)) (h1 := zh) rfl ?_
    refine wp_last (z := zs * 20 + zi) (j := (20 * zs + zi).toNat) (n := 80) rfl (by decide) (by decide) rfl rfl (by omega) (by omega) (by decide) ?_
    refine wp_ret (rv := none) rfl ?_
    exact ⟨rfl, rfl⟩
set_option maxRecDepth 20000 in
set_option maxHeartbeats 4000000 in
theorem jl_rbegin (zd : Nat) (q_d : 2 ≤ zd) {zh : am_H} {zs zn : Int} (q_s : 0 ≤ zs ∧ zs < 4) (q_n : 0 ≤ zn ∧ zn ≤ 20) {zQ : Option Value → am_H → Prop} (zk2 : ∀ zg : am_H, zF2 32 zh zg → (∀ j : Nat, zg.2 32 j = if (20 * zs).toNat ≤ j ∧ j < (20 * zs + zn).toNat then 0 else zh.2 32 j) → zQ none zg) : ∀ (z_n : Nat) (zg : am_H) (zi : Int) (q_f : zF2 32 zh zg) (q_i : 0 ≤ zi ∧ zi ≤ zn) (q_w : ∀ j : Nat, zg.2 32 j = if (20 * zs).toNat ≤ j ∧ j < (20 * zs + zi).toNat then 0 else zh.2 32 j), zn - zi < (z_n : Int) → am_wp zd am_m_Shelves_begin 11 [(0, .ref 31), (1, .int (iN (zs))), (2, .int (iN (zn))), (3, .int (iN (zi)))] [] (78, 76) zg (78, 76) zQ := by
  obtain ⟨zd, rfl⟩ : ∃ y_e, zd = y_e + 2 := ⟨zd - 2, by omega⟩
  intro z_n
  induction z_n with
  | zero => intro zg zi q_f q_i q_w q_m; omega
  | succ z_n z_ih =>
    intro zg zi q_f q_i q_w q_m
    refine wp_run (k := 2) (pc1 := 13) (l1 := [(0, .ref 31), (1, .int (iN (zs))), (2, .int (iN (zn))), (3, .int (iN (zi)))]) (st1 := [.int (iN (zn)), .int (iN (zi))]) (kr1 := (78, 76)) (h1 := zg) rfl ?_
    refine wp_ge (a := zi) (b := zn) rfl (by omega) (by omega) (fun b_13 => ?_) (fun b_13 => ?_)
    · refine wp_ret (rv := none) rfl ?_
      exact zk2 zg q_f (by rw [show zn = zi by omega]; exact q_w)
    · refine wp_run (k := 4) (pc1 := 20) (l1 := [(0, .ref 31), (1, .int (iN (zs))), (2, .int (iN (zn))), (3, .int (iN (zi)))]) (st1 := [.long (Int64.ofNat 0), .int (iN (zi)), .int (iN (zs)), .ref 31]) (kr1 := (78, 76)) (h1 := zg) rfl ?_
      refine wp_call (md1 := am_m_Shelves_store) (As := [.ref 31, .int (iN (zs)), .int (iN (zi)), .long (Int64.ofNat 0)]) (rest := []) (kr1 := (78, 76)) rfl (jt_rstore (zh := zg) (zs := zs) (zi := zi) (zx := Int64.ofNat 0) _ (by omega) (by omega) (by omega)) ?_
      rintro _ _ ⟨rfl, rfl⟩
      refine wp_run (k := 2) (pc1 := 11) (l1 := [(0, .ref 31), (1, .int (iN (zs))), (2, .int (iN (zn))), (3, .int (iN ((zi) + 1)))]) (st1 := []) (kr1 := (78, 76)) (h1 := am_wl zg 32 (20 * zs + (zi) : Int).toNat (Int64.ofNat 0)) (Eq.trans (b := (some (11, [(0, .ref 31), (1, .int (iN (zs))), (2, .int (iN (zn))), (3, .int ((iN (zi)) + iN (1)))], [], (78, 76), am_wl zg 32 (20 * zs + (zi) : Int).toNat (Int64.ofNat 0)) : Option am_C)) rfl (by simp only [Int32.ofInt_add, Int32.ofInt_sub, Int32.ofInt_mul, Int32.ofInt_neg])) ?_
      refine z_ih (am_wl zg 32 (20 * zs + (zi) : Int).toNat (Int64.ofNat 0)) (zi + 1) (zF2_w q_f _ _) (by omega) (fun j => ?_) (by omega)
      by_cases y1 : j = (20 * zs + zi).toNat
      · subst y1; rw [am_wl_at]; exact (if_pos (by omega)).symm
      · rw [am_wl_no _ _ _ y1, q_w j]
        by_cases y2 : (20 * zs).toNat ≤ j ∧ j < (20 * zs + zi).toNat
        · rw [if_pos y2, if_pos (by omega)]
        · rw [if_neg y2, if_neg (by omega)]
set_option maxRecDepth 20000 in
set_option maxHeartbeats 4000000 in
theorem jt_rbegin (zd : Nat) (q_d : 2 ≤ zd) {zh : am_H} {zs zn : Int} (q_s : 0 ≤ zs ∧ zs < 4) (q_n : 0 ≤ zn ∧ zn ≤ 20) : am_wp zd am_m_Shelves_begin 0 [(0, .ref 31), (1, .int (iN (zs))), (2, .int (iN (zn)))] [] (78, 76) zh (78, 76) (fun rv h' => rv = none ∧ zF2 32 (am_wr zh 33 zs.toNat (iN zn)) h' ∧ ∀ j : Nat, h'.2 32 j = if (20 * zs).toNat ≤ j ∧ j < (20 * zs + zn).toNat then 0 else zh.2 32 j) := by
  obtain ⟨zd, rfl⟩ : ∃ y_e, zd = y_e + 2 := ⟨zd - 2, by omega⟩
  refine wp_run (k := 4) (pc1 := 6) (l1 := [(0, .ref 31), (1, .int (iN (zs))), (2, .int (iN (zn)))]) (st1 := [.int (iN (zn)), .int (iN (zs)), .ref 33]) (kr1 := (78, 76)) (h1 := zh) rfl ?_
  refine wp_call (md1 := am_m_Lp_lay) (As := [.ref 33, .int (iN (zs)), .int (iN (zn))]) (rest := []) (kr1 := (78, 76)) rfl (jt_lay _ (by omega) (zn := 4) (zi := zs) (zv := iN (zn)) (by decide) (by decide) rfl rfl rfl (by decide) (by omega) (by omega)) ?_
  rintro _ _ ⟨rfl, rfl⟩
  refine wp_run (k := 2) (pc1 := 11) (l1 := [(0, .ref 31), (1, .int (iN (zs))), (2, .int (iN (zn))), (3, .int (iN (0)))]) (st1 := []) (kr1 := (78, 76)) (h1 := am_wr zh 33 (zs : Int).toNat (iN (zn))) rfl ?_
  exact jl_rbegin (zh := am_wr zh 33 (zs : Int).toNat (iN (zn))) _ (by omega) q_s q_n (fun zg y1 y2 => ⟨rfl, y1, y2⟩) 30 _ 0 ⟨rfl, fun _ _ => rfl⟩ (by omega) (fun j => (if_neg (by omega)).symm) (by omega)
set_option maxRecDepth 20000 in
set_option maxHeartbeats 4000000 in
theorem jL_row (zd : Nat) (q_d : 3 ≤ zd) {zh : am_H} {zs zn : Int} (q_zsr : -2147483648 ≤ zs ∧ zs < 2147483648) (q_znr : -2147483648 ≤ zn ∧ zn < 2147483648) : am_wp zd am_m_Lp_row 0 [(0, .ref 0), (1, .int (iN (zs))), (2, .int (iN (zn)))] [] (78, 76) zh (78, 76) (fun rv h' => ((0 ≤ zs ∧ zs < 4 ∧ 0 ≤ zn ∧ zn ≤ 20) → rv = some (.int (iN 1)) ∧ zF2 32 (am_wr zh 33 zs.toNat (iN zn)) h' ∧ ∀ j : Nat, h'.2 32 j = if (20 * zs).toNat ≤ j ∧ j < (20 * zs + zn).toNat then 0 else zh.2 32 j) ∧ (¬ (0 ≤ zs ∧ zs < 4 ∧ 0 ≤ zn ∧ zn ≤ 20) → rv = some (.int (iN (if ¬ (0 ≤ zs ∧ zs < 4) ∨ 20 < zn then -1 else -14))) ∧ zh = h')) := by
  obtain ⟨zd, rfl⟩ : ∃ y_e, zd = y_e + 3 := ⟨zd - 3, by omega⟩
  refine wp_run (k := 2) (pc1 := 2) (l1 := [(0, .ref 0), (1, .int (iN (zs))), (2, .int (iN (zn)))]) (st1 := [.int (iN (4)), .int (iN (zs))]) (kr1 := (78, 76)) (h1 := zh) rfl ?_
  refine wp_call (md1 := am_m_Lp_inside) (As := [.int (iN (zs)), .int (iN (4))]) (rest := []) (kr1 := (78, 76)) rfl (jt_inside _ (by omega) (zi := zs) (ze := 4) (by omega) (by omega)) ?_
  rintro _ _ ⟨rfl, rfl⟩
  refine wp_eqb rfl (fun b_5 => ?_) (fun b_5 => ?_)
  · refine wp_run (k := 1) (pc1 := 15) (l1 := [(0, .ref 0), (1, .int (iN (zs))), (2, .int (iN (zn)))]) (st1 := [.int (iN (-1))]) (kr1 := (78, 76)) (h1 := zh) rfl ?_
    refine wp_ret (rv := some (.int (iN (-1)))) rfl ?_
    exact ⟨fun y => by omega, fun _ => ⟨by rw [if_pos (by omega)], rfl⟩⟩
  · refine wp_run (k := 2) (pc1 := 11) (l1 := [(0, .ref 0), (1, .int (iN (zs))), (2, .int (iN (zn)))]) (st1 := [.int (iN (20)), .int (iN (zn))]) (kr1 := (78, 76)) (h1 := zh) rfl ?_
    refine wp_le (a := zn) (b := 20) rfl (by omega) (by omega) (fun b_11 => ?_) (fun b_11 => ?_)
    · refine wp_run (k := 1) (pc1 := 17) (l1 := [(0, .ref 0), (1, .int (iN (zs))), (2, .int (iN (zn)))]) (st1 := [.int (iN (zn))]) (kr1 := (78, 76)) (h1 := zh) rfl ?_
      refine wp_ge0 (a := zn) rfl (by omega) (fun b_17 => ?_) (fun b_17 => ?_)
      · refine wp_run (k := 4) (pc1 := 29) (l1 := [(0, .ref 0), (1, .int (iN (zs))), (2, .int (iN (zn)))]) (st1 := [.int (iN (zn)), .int (iN (zs)), .ref 31]) (kr1 := (78, 76)) (h1 := zh) rfl ?_
        refine wp_call (md1 := am_m_Shelves_begin) (As := [.ref 31, .int (iN (zs)), .int (iN (zn))]) (rest := []) (kr1 := (78, 76)) rfl (jt_rbegin (zs := zs) (zn := zn) _ (by omega) (by omega) (by omega)) ?_
        rintro _ zg1 ⟨rfl, q_f1, q_w1⟩
        refine wp_run (k := 1) (pc1 := 33) (l1 := [(0, .ref 0), (1, .int (iN (zs))), (2, .int (iN (zn)))]) (st1 := [.int (iN (1))]) (kr1 := (78, 76)) (h1 := zg1) rfl ?_
        refine wp_ret (rv := some (.int (iN (1)))) rfl ?_
        exact ⟨fun _ => ⟨rfl, q_f1, q_w1⟩, fun y => by omega⟩
      · refine wp_run (k := 1) (pc1 := 22) (l1 := [(0, .ref 0), (1, .int (iN (zs))), (2, .int (iN (zn)))]) (st1 := [.int (iN (-14))]) (kr1 := (78, 76)) (h1 := zh) rfl ?_
        refine wp_ret (rv := some (.int (iN (-14)))) rfl ?_
        exact ⟨fun y => by omega, fun _ => ⟨by rw [if_neg (by omega)], rfl⟩⟩
    · refine wp_run (k := 1) (pc1 := 15) (l1 := [(0, .ref 0), (1, .int (iN (zs))), (2, .int (iN (zn)))]) (st1 := [.int (iN (-1))]) (kr1 := (78, 76)) (h1 := zh) rfl ?_
      refine wp_ret (rv := some (.int (iN (-1)))) rfl ?_
      exact ⟨fun y => by omega, fun _ => ⟨by rw [if_pos (by omega)], rfl⟩⟩
set_option maxRecDepth 20000 in
set_option maxHeartbeats 4000000 in
theorem jL_put (zd : Nat) (q_d : 3 ≤ zd) {zh : am_H} {Z : Int → Int} {zs zi : Int} {zx : Int64} (q_z : ∀ k : Int, 0 ≤ k → k < 4 → zh.1 33 k.toNat = iN (Z k) ∧ -1 ≤ Z k ∧ Z k ≤ 20) (q_zsr : -2147483648 ≤ zs ∧ zs < 2147483648) (q_zir : -2147483648 ≤ zi ∧ zi < 2147483648) : am_wp zd am_m_Lp_put 0 [(0, .ref 0), (1, .int (iN (zs))), (2, .int (iN (zi))), (3, .long (zx))] [] (78, 76) zh (78, 76) (fun rv h' => ((0 ≤ zs ∧ zs < 4 ∧ 0 ≤ zi ∧ zi < Z zs) → rv = some (.int (iN 1)) ∧ am_wl zh 32 (20 * zs + zi).toNat zx = h') ∧ (¬ (0 ≤ zs ∧ zs < 4 ∧ 0 ≤ zi ∧ zi < Z zs) → rv = some (.int (iN (if ¬ (0 ≤ zs ∧ zs < 4) then -1 else if Z zs < 0 then -11 else -13))) ∧ zh = h')) := by
  obtain ⟨zd, rfl⟩ : ∃ y_e, zd = y_e + 3 := ⟨zd - 3, by omega⟩
  have y_z : 0 ≤ zs → zs < 4 → -1 ≤ Z zs ∧ Z zs ≤ 20 := fun y1 y2 => (q_z zs y1 y2).2
  refine wp_run (k := 2) (pc1 := 2) (l1 := [(0, .ref 0), (1, .int (iN (zs))), (2, .int (iN (zi))), (3, .long (zx))]) (st1 := [.int (iN (4)), .int (iN (zs))]) (kr1 := (78, 76)) (h1 := zh) rfl ?_
  refine wp_call (md1 := am_m_Lp_inside) (As := [.int (iN (zs)), .int (iN (4))]) (rest := []) (kr1 := (78, 76)) rfl (jt_inside _ (by omega) (zi := zs) (ze := 4) (by omega) (by omega)) ?_
  rintro _ _ ⟨rfl, rfl⟩
  refine wp_neb rfl (fun b_5 => ?_) (fun b_5 => ?_)
  · refine wp_run (k := 3) (pc1 := 15) (l1 := [(0, .ref 0), (1, .int (iN (zs))), (2, .int (iN (zi))), (3, .long (zx))]) (st1 := [.int (iN (zs)), .ref 31]) (kr1 := (78, 76)) (h1 := zh) rfl ?_
    refine wp_call (md1 := am_m_Shelves_holds) (As := [.ref 31, .int (iN (zs))]) (rest := []) (kr1 := (78, 76)) rfl (jt_holds _ (by omega) q_z (zs := zs) (by omega)) ?_
    rintro _ _ ⟨rfl, rfl⟩
    refine wp_neb rfl (fun b_18 => ?_) (fun b_18 => ?_)
    · refine wp_run (k := 4) (pc1 := 30) (l1 := [(0, .ref 0), (1, .int (iN (zs))), (2, .int (iN (zi))), (3, .long (zx))]) (st1 := [.int (iN (zi)), .int (iN (zs)), .ref 31]) (kr1 := (78, 76)) (h1 := zh) rfl ?_
      refine wp_call (md1 := am_m_Shelves_hasPlace) (As := [.ref 31, .int (iN (zs)), .int (iN (zi))]) (rest := []) (kr1 := (78, 76)) rfl (jt_hasPlace _ (by omega) q_z (zs := zs) (zi := zi) (by omega) (by omega)) ?_
      rintro _ _ ⟨rfl, rfl⟩
      refine wp_neb rfl (fun b_33 => ?_) (fun b_33 => ?_)
      · refine wp_run (k := 5) (pc1 := 46) (l1 := [(0, .ref 0), (1, .int (iN (zs))), (2, .int (iN (zi))), (3, .long (zx))]) (st1 := [.long (zx), .int (iN (zi)), .int (iN (zs)), .ref 31]) (kr1 := (78, 76)) (h1 := zh) rfl ?_
        refine wp_call (md1 := am_m_Shelves_store) (As := [.ref 31, .int (iN (zs)), .int (iN (zi)), .long (zx)]) (rest := []) (kr1 := (78, 76)) rfl (jt_rstore (zh := zh) (zs := zs) (zi := zi) (zx := zx) _ (by omega) (by omega) (by omega)) ?_
        rintro _ _ ⟨rfl, rfl⟩
        refine wp_run (k := 1) (pc1 := 50) (l1 := [(0, .ref 0), (1, .int (iN (zs))), (2, .int (iN (zi))), (3, .long (zx))]) (st1 := [.int (iN (1))]) (kr1 := (78, 76)) (h1 := am_wl zh 32 (20 * zs + (zi) : Int).toNat (zx)) rfl ?_
        refine wp_ret (rv := some (.int (iN (1)))) rfl ?_
        exact ⟨fun _ => ⟨rfl, rfl⟩, fun y => by omega⟩
      · refine wp_run (k := 1) (pc1 := 38) (l1 := [(0, .ref 0), (1, .int (iN (zs))), (2, .int (iN (zi))), (3, .long (zx))]) (st1 := [.int (iN (-13))]) (kr1 := (78, 76)) (h1 := zh) rfl ?_
        refine wp_ret (rv := some (.int (iN (-13)))) rfl ?_
        refine ⟨fun y => by omega, fun _ => ⟨?_, rfl⟩⟩
        rw [show (if ¬ (0 ≤ zs ∧ zs < 4) then -1 else if Z zs < 0 then -11 else -13) = -13 from ?_]
        (repeat' split) <;> first | rfl | omega | contradiction | (exfalso; omega) | (exfalso; rename_i y_x; exact absurd y_x.2.1 (by assumption)) | (exfalso; rename_i y_x; exact y_x ⟨by omega, by assumption, by omega⟩)
    · refine wp_run (k := 1) (pc1 := 23) (l1 := [(0, .ref 0), (1, .int (iN (zs))), (2, .int (iN (zi))), (3, .long (zx))]) (st1 := [.int (iN (-11))]) (kr1 := (78, 76)) (h1 := zh) rfl ?_
      refine wp_ret (rv := some (.int (iN (-11)))) rfl ?_
      refine ⟨fun y => by omega, fun _ => ⟨?_, rfl⟩⟩
      rw [show (if ¬ (0 ≤ zs ∧ zs < 4) then -1 else if Z zs < 0 then -11 else -13) = -11 from ?_]
      (repeat' split) <;> first | rfl | omega | contradiction | (exfalso; omega) | (exfalso; rename_i y_x; exact absurd y_x.2.1 (by assumption)) | (exfalso; rename_i y_x; exact y_x ⟨by omega, by assumption, by omega⟩)
  · refine wp_run (k := 1) (pc1 := 9) (l1 := [(0, .ref 0), (1, .int (iN (zs))), (2, .int (iN (zi))), (3, .long (zx))]) (st1 := [.int (iN (-1))]) (kr1 := (78, 76)) (h1 := zh) rfl ?_
    refine wp_ret (rv := some (.int (iN (-1)))) rfl ?_
    refine ⟨fun y => by omega, fun _ => ⟨?_, rfl⟩⟩
    rw [show (if ¬ (0 ≤ zs ∧ zs < 4) then -1 else if Z zs < 0 then -11 else -13) = -1 from ?_]
    (repeat' split) <;> first | rfl | omega | contradiction | (exfalso; omega) | (exfalso; rename_i y_x; exact absurd y_x.2.1 (by assumption)) | (exfalso; rename_i y_x; exact y_x ⟨by omega, by assumption, by omega⟩)
set_option maxRecDepth 20000 in
set_option maxHeartbeats 4000000 in
theorem jL_get (zd : Nat) (q_d : 3 ≤ zd) {zh : am_H} {Z : Int → Int} {zs zi : Int} (q_z : ∀ k : Int, 0 ≤ k → k < 4 → zh.1 33 k.toNat = iN (Z k) ∧ -1 ≤ Z k ∧ Z k ≤ 20) (q_zsr : -2147483648 ≤ zs ∧ zs < 2147483648) (q_zir : -2147483648 ≤ zi ∧ zi < 2147483648) : am_wp zd am_m_Lp_get 0 [(0, .ref 0), (1, .int (iN (zs))), (2, .int (iN (zi)))] [] (78, 76) zh (78, 76) (fun rv h' => rv = some (.long (if (0 ≤ zs ∧ zs < 4 ∧ 0 ≤ zi ∧ zi < Z zs) then zh.2 32 (20 * zs + zi).toNat else (-9223372036854775808 : Int64))) ∧ zh = h') := by
  obtain ⟨zd, rfl⟩ : ∃ y_e, zd = y_e + 3 := ⟨zd - 3, by omega⟩
  have y_z : 0 ≤ zs → zs < 4 → -1 ≤ Z zs ∧ Z zs ≤ 20 := fun y1 y2 => (q_z zs y1 y2).2
  refine wp_run (k := 2) (pc1 := 2) (l1 := [(0, .ref 0), (1, .int (iN (zs))), (2, .int (iN (zi)))]) (st1 := [.int (iN (4)), .int (iN (zs))]) (kr1 := (78, 76)) (h1 := zh) rfl ?_
  refine wp_call (md1 := am_m_Lp_inside) (As := [.int (iN (zs)), .int (iN (4))]) (rest := []) (kr1 := (78, 76)) rfl (jt_inside _ (by omega) (zi := zs) (ze := 4) (by omega) (by omega)) ?_
  rintro _ _ ⟨rfl, rfl⟩
  refine wp_eqb rfl (fun b_5 => ?_) (fun b_5 => ?_)
  · refine wp_run (k := 1) (pc1 := 23) (l1 := [(0, .ref 0), (1, .int (iN (zs))), (2, .int (iN (zi)))]) (st1 := [.long ((-9223372036854775808 : Int64))]) (kr1 := (78, 76)) (h1 := zh) rfl ?_
    refine wp_ret (rv := some (.long ((-9223372036854775808 : Int64)))) rfl ?_
    exact ⟨by rw [if_neg (by omega)], rfl⟩
  · refine wp_run (k := 4) (pc1 := 14) (l1 := [(0, .ref 0), (1, .int (iN (zs))), (2, .int (iN (zi)))]) (st1 := [.int (iN (zi)), .int (iN (zs)), .ref 31]) (kr1 := (78, 76)) (h1 := zh) rfl ?_
    refine wp_call (md1 := am_m_Shelves_hasPlace) (As := [.ref 31, .int (iN (zs)), .int (iN (zi))]) (rest := []) (kr1 := (78, 76)) rfl (jt_hasPlace _ (by omega) q_z (zs := zs) (zi := zi) (by omega) (by omega)) ?_
    rintro _ _ ⟨rfl, rfl⟩
    refine wp_neb rfl (fun b_17 => ?_) (fun b_17 => ?_)
    · refine wp_run (k := 4) (pc1 := 30) (l1 := [(0, .ref 0), (1, .int (iN (zs))), (2, .int (iN (zi)))]) (st1 := [.int (iN (zi)), .int (iN (zs)), .ref 31]) (kr1 := (78, 76)) (h1 := zh) rfl ?_
      refine wp_call (md1 := am_m_Shelves_value) (As := [.ref 31, .int (iN (zs)), .int (iN (zi))]) (rest := []) (kr1 := (78, 76)) rfl (jt_rvalue (zs := zs) (zi := zi) _ (by omega) (by omega) (by omega)) ?_
      rintro _ _ ⟨rfl, rfl⟩
      refine wp_ret (rv := some (.long ((zh.2 32 (20 * zs + zi).toNat)))) rfl ?_
      exact ⟨by rw [if_pos (by omega)], rfl⟩
    · refine wp_run (k := 1) (pc1 := 23) (l1 := [(0, .ref 0), (1, .int (iN (zs))), (2, .int (iN (zi)))]) (st1 := [.long ((-9223372036854775808 : Int64))]) (kr1 := (78, 76)) (h1 := zh) rfl ?_
      refine wp_ret (rv := some (.long ((-9223372036854775808 : Int64)))) rfl ?_
      exact ⟨by rw [if_neg (by omega)], rfl⟩
