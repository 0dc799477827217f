/-! THE CONSTRUCTORS: what only makes rows of 0 -/
/-- from zk on nothing was written yet -/
def zZ (zk : Nat) (h : am_H) : Prop := ∀ c : Nat, zk ≤ c → c < 1000 → h.1 c = (fun _ => 0) ∧ h.2 c = (fun _ => 0)
theorem zZ_le {zk zj : Nat} {h : am_H} (q : zZ zk h) (q1 : zk ≤ zj) : zZ zj h := fun c y1 y2 => q c (Nat.le_trans q1 y1) y2
theorem zZ_wr {zk c j : Nat} {v : Int32} {h : am_H} (q : zZ zk h) (q1 : c < zk) : zZ zk (am_wr h c j v) := fun c' y1 y2 => ⟨(am_wr_ne (by omega)).trans (q c' y1 y2).1, (q c' y1 y2).2⟩
theorem zZ_f {zk : Nat} {ks : List Nat} {h h' : am_H} (q : zZ zk h) (q1 : am_fr ks h h') (q2 : ∀ c, c ∈ ks → c < zk) : zZ zk h' := fun c y1 y2 => ⟨(q1.2 c (fun z => by have := q2 c z; omega)).trans (q c y1 y2).1, by rw [q1.1]; exact (q c y1 y2).2⟩
theorem am_z_0 {zk : Nat} {h : am_H} (q : zZ zk h) (q1 : zk < 1000) : am_z h zk = h := by
  refine Prod.ext ?_ ?_
  · funext c j
    show (if c = zk then 0 else h.1 c j) = h.1 c j
    by_cases y : c = zk
    · rw [if_pos y, y, (q zk (Nat.le_refl _) q1).1]
    · rw [if_neg y]
  · funext c j
    show (if c = zk then 0 else h.2 c j) = h.2 c j
    by_cases y : c = zk
    · rw [if_pos y, y, (q zk (Nat.le_refl _) q1).2]
    · rw [if_neg y]
theorem am_wr_z {zk c j : Nat} {h : am_H} (q : zZ zk h) (q1 : zk ≤ c) (q2 : c < 1000) : am_wr h c j (iN 0) = h := by
  refine Prod.ext ?_ rfl
  funext c' j'
  show (if c' = c ∧ j' = j then iN 0 else h.1 c' j') = h.1 c' j'
  by_cases y : c' = c ∧ j' = j
  · rw [if_pos y, y.1, (q c q1 q2).1]; exact iN_0
  · rw [if_neg y]
set_option maxRecDepth 20000 in
set_option maxHeartbeats 4000000 in
theorem ji_Bounded_init_18 (zd : Nat) (q_d : 1 ≤ zd) {zh : am_H} (q_z : zZ 18 zh) : am_wp zd am_m_Bounded_init 0 [(0, .ref 18)] [] (19, 17) zh (22, 20) (fun rv h' => rv = none ∧ zh = h') := by
  obtain ⟨zd, rfl⟩ : ∃ y_e, zd = y_e + 1 := ⟨zd - 1, by omega⟩
  refine wp_run (k := 1) (pc1 := 1) (l1 := [(0, .ref 18)]) (st1 := [.ref 18]) (kr1 := (19, 17)) (h1 := zh) rfl ?_
  refine wp_now (rest := []) rfl ?_
  refine wp_run (k := 3) (pc1 := 9) (l1 := [(0, .ref 18)]) (st1 := []) (kr1 := (19, 17)) (h1 := am_wr zh 18 0 (iN (0))) rfl ?_
  rw [am_wr_z q_z (by decide) (by decide)]
  refine wp_run (k := 3) (pc1 := 15) (l1 := [(0, .ref 18)]) (st1 := [.ref 19, .ref 18]) (kr1 := (20, 17)) (h1 := am_z zh 19) rfl ?_
  rw [am_z_0 (zZ_le (zj := 19) q_z (by decide)) (by decide)]
  refine wp_run (k := 1) (pc1 := 18) (l1 := [(0, .ref 18)]) (st1 := []) (kr1 := (20, 18)) (h1 := zh) rfl ?_
  refine wp_run (k := 3) (pc1 := 23) (l1 := [(0, .ref 18)]) (st1 := [.ref 20, .ref 18]) (kr1 := (21, 18)) (h1 := am_z zh 20) rfl ?_
  rw [am_z_0 (zZ_le (zj := 20) q_z (by decide)) (by decide)]
  refine wp_run (k := 1) (pc1 := 26) (l1 := [(0, .ref 18)]) (st1 := []) (kr1 := (21, 19)) (h1 := zh) rfl ?_
  refine wp_run (k := 3) (pc1 := 31) (l1 := [(0, .ref 18)]) (st1 := [.ref 21, .ref 18]) (kr1 := (22, 19)) (h1 := am_z zh 21) rfl ?_
  rw [am_z_0 (zZ_le (zj := 21) q_z (by decide)) (by decide)]
  refine wp_run (k := 1) (pc1 := 34) (l1 := [(0, .ref 18)]) (st1 := []) (kr1 := (22, 20)) (h1 := zh) rfl ?_
  refine wp_run (k := 3) (pc1 := 39) (l1 := [(0, .ref 18)]) (st1 := []) (kr1 := (22, 20)) (h1 := am_wr zh 18 4 (iN (0))) rfl ?_
  rw [am_wr_z q_z (by decide) (by decide)]
  refine wp_run (k := 3) (pc1 := 44) (l1 := [(0, .ref 18)]) (st1 := []) (kr1 := (22, 20)) (h1 := am_wr zh 18 5 (iN (0))) rfl ?_
  rw [am_wr_z q_z (by decide) (by decide)]
  refine wp_ret (rv := none) rfl ?_
  exact ⟨rfl, rfl⟩
set_option maxRecDepth 20000 in
set_option maxHeartbeats 4000000 in
theorem ji_ByRule_init_22 (zd : Nat) (q_d : 1 ≤ zd) {zh : am_H} (q_z : zZ 22 zh) : am_wp zd am_m_ByRule_init 0 [(0, .ref 22)] [] (23, 21) zh (23, 21) (fun rv h' => rv = none ∧ zh = h') := by
  obtain ⟨zd, rfl⟩ : ∃ y_e, zd = y_e + 1 := ⟨zd - 1, by omega⟩
  refine wp_run (k := 1) (pc1 := 1) (l1 := [(0, .ref 22)]) (st1 := [.ref 22]) (kr1 := (23, 21)) (h1 := zh) rfl ?_
  refine wp_now (rest := []) rfl ?_
  refine wp_run (k := 3) (pc1 := 9) (l1 := [(0, .ref 22)]) (st1 := []) (kr1 := (23, 21)) (h1 := am_wr zh 22 0 (iN (0))) rfl ?_
  rw [am_wr_z q_z (by decide) (by decide)]
  refine wp_run (k := 3) (pc1 := 14) (l1 := [(0, .ref 22)]) (st1 := []) (kr1 := (23, 21)) (h1 := am_wr zh 22 1 (iN (0))) rfl ?_
  rw [am_wr_z q_z (by decide) (by decide)]
  refine wp_run (k := 3) (pc1 := 19) (l1 := [(0, .ref 22)]) (st1 := []) (kr1 := (23, 21)) (h1 := am_wr zh 22 2 (iN (0))) rfl ?_
  rw [am_wr_z q_z (by decide) (by decide)]
  refine wp_ret (rv := none) rfl ?_
  exact ⟨rfl, rfl⟩
set_option maxRecDepth 20000 in
set_option maxHeartbeats 4000000 in
theorem ji_ByHand_init_23 (zd : Nat) (q_d : 1 ≤ zd) {zh : am_H} (q_z : zZ 23 zh) : am_wp zd am_m_ByHand_init 0 [(0, .ref 23)] [] (24, 22) zh (25, 23) (fun rv h' => rv = none ∧ zh = h') := by
  obtain ⟨zd, rfl⟩ : ∃ y_e, zd = y_e + 1 := ⟨zd - 1, by omega⟩
  refine wp_run (k := 1) (pc1 := 1) (l1 := [(0, .ref 23)]) (st1 := [.ref 23]) (kr1 := (24, 22)) (h1 := zh) rfl ?_
  refine wp_now (rest := []) rfl ?_
  refine wp_run (k := 3) (pc1 := 9) (l1 := [(0, .ref 23)]) (st1 := [.ref 24, .ref 23]) (kr1 := (25, 22)) (h1 := am_z zh 24) rfl ?_
  rw [am_z_0 (zZ_le (zj := 24) q_z (by decide)) (by decide)]
  refine wp_run (k := 1) (pc1 := 12) (l1 := [(0, .ref 23)]) (st1 := []) (kr1 := (25, 23)) (h1 := zh) rfl ?_
  refine wp_ret (rv := none) rfl ?_
  exact ⟨rfl, rfl⟩
set_option maxRecDepth 20000 in
set_option maxHeartbeats 4000000 in
theorem ji_Changes_init_25 (zd : Nat) (q_d : 1 ≤ zd) {zh : am_H} (q_z : zZ 25 zh) : am_wp zd am_m_Changes_init 0 [(0, .ref 25)] [] (26, 24) zh (27, 25) (fun rv h' => rv = none ∧ zh = h') := by
  obtain ⟨zd, rfl⟩ : ∃ y_e, zd = y_e + 1 := ⟨zd - 1, by omega⟩
  refine wp_run (k := 1) (pc1 := 1) (l1 := [(0, .ref 25)]) (st1 := [.ref 25]) (kr1 := (26, 24)) (h1 := zh) rfl ?_
  refine wp_now (rest := []) rfl ?_
  refine wp_run (k := 3) (pc1 := 10) (l1 := [(0, .ref 25)]) (st1 := [.ref 26, .ref 25]) (kr1 := (27, 24)) (h1 := am_z zh 26) rfl ?_
  rw [am_z_0 (zZ_le (zj := 26) q_z (by decide)) (by decide)]
  refine wp_run (k := 1) (pc1 := 13) (l1 := [(0, .ref 25)]) (st1 := []) (kr1 := (27, 25)) (h1 := zh) rfl ?_
  refine wp_run (k := 3) (pc1 := 18) (l1 := [(0, .ref 25)]) (st1 := []) (kr1 := (27, 25)) (h1 := am_wr zh 25 1 (iN (0))) rfl ?_
  rw [am_wr_z q_z (by decide) (by decide)]
  refine wp_run (k := 3) (pc1 := 23) (l1 := [(0, .ref 25)]) (st1 := []) (kr1 := (27, 25)) (h1 := am_wr zh 25 2 (iN (0))) rfl ?_
  rw [am_wr_z q_z (by decide) (by decide)]
  refine wp_ret (rv := none) rfl ?_
  exact ⟨rfl, rfl⟩
set_option maxRecDepth 20000 in
set_option maxHeartbeats 4000000 in
theorem ji_Text_init_27 (zd : Nat) (q_d : 1 ≤ zd) {zh : am_H} (q_z : zZ 27 zh) : am_wp zd am_m_Text_init 0 [(0, .ref 27)] [] (28, 26) zh (29, 27) (fun rv h' => rv = none ∧ zh = h') := by
  obtain ⟨zd, rfl⟩ : ∃ y_e, zd = y_e + 1 := ⟨zd - 1, by omega⟩
  refine wp_run (k := 1) (pc1 := 1) (l1 := [(0, .ref 27)]) (st1 := [.ref 27]) (kr1 := (28, 26)) (h1 := zh) rfl ?_
  refine wp_now (rest := []) rfl ?_
  refine wp_run (k := 3) (pc1 := 9) (l1 := [(0, .ref 27)]) (st1 := [.ref 28, .ref 27]) (kr1 := (29, 26)) (h1 := am_z zh 28) rfl ?_
  rw [am_z_0 (zZ_le (zj := 28) q_z (by decide)) (by decide)]
  refine wp_run (k := 1) (pc1 := 12) (l1 := [(0, .ref 27)]) (st1 := []) (kr1 := (29, 27)) (h1 := zh) rfl ?_
  refine wp_run (k := 3) (pc1 := 17) (l1 := [(0, .ref 27)]) (st1 := []) (kr1 := (29, 27)) (h1 := am_wr zh 27 1 (iN (0))) rfl ?_
  rw [am_wr_z q_z (by decide) (by decide)]
  refine wp_run (k := 3) (pc1 := 22) (l1 := [(0, .ref 27)]) (st1 := []) (kr1 := (29, 27)) (h1 := am_wr zh 27 2 (iN (0))) rfl ?_
  rw [am_wr_z q_z (by decide) (by decide)]
  refine wp_run (k := 3) (pc1 := 27) (l1 := [(0, .ref 27)]) (st1 := []) (kr1 := (29, 27)) (h1 := am_wr zh 27 3 (iN (0))) rfl ?_
  rw [am_wr_z q_z (by decide) (by decide)]
  refine wp_run (k := 3) (pc1 := 32) (l1 := [(0, .ref 27)]) (st1 := []) (kr1 := (29, 27)) (h1 := am_wr zh 27 4 (iN (0))) rfl ?_
  rw [am_wr_z q_z (by decide) (by decide)]
  refine wp_run (k := 3) (pc1 := 37) (l1 := [(0, .ref 27)]) (st1 := []) (kr1 := (29, 27)) (h1 := am_wr zh 27 5 (iN (0))) rfl ?_
  rw [am_wr_z q_z (by decide) (by decide)]
  refine wp_ret (rv := none) rfl ?_
  exact ⟨rfl, rfl⟩
set_option maxRecDepth 20000 in
set_option maxHeartbeats 4000000 in
theorem ji_Printed_init_29 (zd : Nat) (q_d : 1 ≤ zd) {zh : am_H} (q_z : zZ 29 zh) : am_wp zd am_m_Printed_init 0 [(0, .ref 29)] [] (30, 28) zh (31, 29) (fun rv h' => rv = none ∧ zh = h') := by
  obtain ⟨zd, rfl⟩ : ∃ y_e, zd = y_e + 1 := ⟨zd - 1, by omega⟩
  refine wp_run (k := 1) (pc1 := 1) (l1 := [(0, .ref 29)]) (st1 := [.ref 29]) (kr1 := (30, 28)) (h1 := zh) rfl ?_
  refine wp_now (rest := []) rfl ?_
  refine wp_run (k := 3) (pc1 := 10) (l1 := [(0, .ref 29)]) (st1 := [.ref 30, .ref 29]) (kr1 := (31, 28)) (h1 := am_z zh 30) rfl ?_
  rw [am_z_0 (zZ_le (zj := 30) q_z (by decide)) (by decide)]
  refine wp_run (k := 1) (pc1 := 13) (l1 := [(0, .ref 29)]) (st1 := []) (kr1 := (31, 29)) (h1 := zh) rfl ?_
  refine wp_run (k := 3) (pc1 := 18) (l1 := [(0, .ref 29)]) (st1 := []) (kr1 := (31, 29)) (h1 := am_wr zh 29 1 (iN (0))) rfl ?_
  rw [am_wr_z q_z (by decide) (by decide)]
  refine wp_ret (rv := none) rfl ?_
  exact ⟨rfl, rfl⟩
set_option maxRecDepth 20000 in
set_option maxHeartbeats 4000000 in
theorem ji_ByHand_init_53 (zd : Nat) (q_d : 1 ≤ zd) {zh : am_H} (q_z : zZ 53 zh) : am_wp zd am_m_ByHand_init 0 [(0, .ref 53)] [] (54, 52) zh (55, 53) (fun rv h' => rv = none ∧ zh = h') := by
  obtain ⟨zd, rfl⟩ : ∃ y_e, zd = y_e + 1 := ⟨zd - 1, by omega⟩
  refine wp_run (k := 1) (pc1 := 1) (l1 := [(0, .ref 53)]) (st1 := [.ref 53]) (kr1 := (54, 52)) (h1 := zh) rfl ?_
  refine wp_now (rest := []) rfl ?_
  refine wp_run (k := 3) (pc1 := 9) (l1 := [(0, .ref 53)]) (st1 := [.ref 54, .ref 53]) (kr1 := (55, 52)) (h1 := am_z zh 54) rfl ?_
  rw [am_z_0 (zZ_le (zj := 54) q_z (by decide)) (by decide)]
  refine wp_run (k := 1) (pc1 := 12) (l1 := [(0, .ref 53)]) (st1 := []) (kr1 := (55, 53)) (h1 := zh) rfl ?_
  refine wp_ret (rv := none) rfl ?_
  exact ⟨rfl, rfl⟩
set_option maxRecDepth 20000 in
set_option maxHeartbeats 4000000 in
theorem ji_Lots_init_4 (zd : Nat) (q_d : 1 ≤ zd) {zh : am_H} (q_z : zZ 4 zh) : am_wp zd am_m_Lots_init 0 [(0, .ref 4)] [] (5, 2) zh (9, 6) (fun rv h' => rv = none ∧ zh = h') := by
  obtain ⟨zd, rfl⟩ : ∃ y_e, zd = y_e + 1 := ⟨zd - 1, by omega⟩
  refine wp_run (k := 1) (pc1 := 1) (l1 := [(0, .ref 4)]) (st1 := [.ref 4]) (kr1 := (5, 2)) (h1 := zh) rfl ?_
  refine wp_now (rest := []) rfl ?_
  refine wp_run (k := 3) (pc1 := 10) (l1 := [(0, .ref 4)]) (st1 := [.ref 5, .ref 4]) (kr1 := (6, 2)) (h1 := am_z zh 5) rfl ?_
  rw [am_z_0 (zZ_le (zj := 5) q_z (by decide)) (by decide)]
  refine wp_run (k := 1) (pc1 := 13) (l1 := [(0, .ref 4)]) (st1 := []) (kr1 := (6, 3)) (h1 := zh) rfl ?_
  refine wp_run (k := 3) (pc1 := 19) (l1 := [(0, .ref 4)]) (st1 := [.ref 6, .ref 4]) (kr1 := (7, 3)) (h1 := am_z zh 6) rfl ?_
  rw [am_z_0 (zZ_le (zj := 6) q_z (by decide)) (by decide)]
  refine wp_run (k := 1) (pc1 := 22) (l1 := [(0, .ref 4)]) (st1 := []) (kr1 := (7, 4)) (h1 := zh) rfl ?_
  refine wp_run (k := 3) (pc1 := 28) (l1 := [(0, .ref 4)]) (st1 := [.ref 7, .ref 4]) (kr1 := (8, 4)) (h1 := am_z zh 7) rfl ?_
  rw [am_z_0 (zZ_le (zj := 7) q_z (by decide)) (by decide)]
  refine wp_run (k := 1) (pc1 := 31) (l1 := [(0, .ref 4)]) (st1 := []) (kr1 := (8, 5)) (h1 := zh) rfl ?_
  refine wp_run (k := 3) (pc1 := 36) (l1 := [(0, .ref 4)]) (st1 := [.ref 8, .ref 4]) (kr1 := (9, 5)) (h1 := am_z zh 8) rfl ?_
  rw [am_z_0 (zZ_le (zj := 8) q_z (by decide)) (by decide)]
  refine wp_run (k := 1) (pc1 := 39) (l1 := [(0, .ref 4)]) (st1 := []) (kr1 := (9, 6)) (h1 := zh) rfl ?_
  refine wp_ret (rv := none) rfl ?_
  exact ⟨rfl, rfl⟩
set_option maxRecDepth 20000 in
set_option maxHeartbeats 4000000 in
theorem ji_Lots_init_37 (zd : Nat) (q_d : 1 ≤ zd) {zh : am_H} (q_z : zZ 37 zh) : am_wp zd am_m_Lots_init 0 [(0, .ref 37)] [] (38, 35) zh (42, 39) (fun rv h' => rv = none ∧ zh = h') := by
  obtain ⟨zd, rfl⟩ : ∃ y_e, zd = y_e + 1 := ⟨zd - 1, by omega⟩
  refine wp_run (k := 1) (pc1 := 1) (l1 := [(0, .ref 37)]) (st1 := [.ref 37]) (kr1 := (38, 35)) (h1 := zh) rfl ?_
  refine wp_now (rest := []) rfl ?_
  refine wp_run (k := 3) (pc1 := 10) (l1 := [(0, .ref 37)]) (st1 := [.ref 38, .ref 37]) (kr1 := (39, 35)) (h1 := am_z zh 38) rfl ?_
  rw [am_z_0 (zZ_le (zj := 38) q_z (by decide)) (by decide)]
  refine wp_run (k := 1) (pc1 := 13) (l1 := [(0, .ref 37)]) (st1 := []) (kr1 := (39, 36)) (h1 := zh) rfl ?_
  refine wp_run (k := 3) (pc1 := 19) (l1 := [(0, .ref 37)]) (st1 := [.ref 39, .ref 37]) (kr1 := (40, 36)) (h1 := am_z zh 39) rfl ?_
  rw [am_z_0 (zZ_le (zj := 39) q_z (by decide)) (by decide)]
  refine wp_run (k := 1) (pc1 := 22) (l1 := [(0, .ref 37)]) (st1 := []) (kr1 := (40, 37)) (h1 := zh) rfl ?_
  refine wp_run (k := 3) (pc1 := 28) (l1 := [(0, .ref 37)]) (st1 := [.ref 40, .ref 37]) (kr1 := (41, 37)) (h1 := am_z zh 40) rfl ?_
  rw [am_z_0 (zZ_le (zj := 40) q_z (by decide)) (by decide)]
  refine wp_run (k := 1) (pc1 := 31) (l1 := [(0, .ref 37)]) (st1 := []) (kr1 := (41, 38)) (h1 := zh) rfl ?_
  refine wp_run (k := 3) (pc1 := 36) (l1 := [(0, .ref 37)]) (st1 := [.ref 41, .ref 37]) (kr1 := (42, 38)) (h1 := am_z zh 41) rfl ?_
  rw [am_z_0 (zZ_le (zj := 41) q_z (by decide)) (by decide)]
  refine wp_run (k := 1) (pc1 := 39) (l1 := [(0, .ref 37)]) (st1 := []) (kr1 := (42, 39)) (h1 := zh) rfl ?_
  refine wp_ret (rv := none) rfl ?_
  exact ⟨rfl, rfl⟩
set_option maxRecDepth 20000 in
set_option maxHeartbeats 4000000 in
theorem ji_Plan_init_3 (zd : Nat) (q_d : 2 ≤ zd) {zh : am_H} (q_z : zZ 3 zh) : am_wp zd am_m_Plan_init 0 [(0, .ref 3)] [] (4, 2) zh (18, 16) (fun rv h' => rv = none ∧ am_wr zh 3 13 (iN 1) = h') := by
  obtain ⟨zd, rfl⟩ : ∃ y_e, zd = y_e + 2 := ⟨zd - 2, by omega⟩
  refine wp_run (k := 1) (pc1 := 1) (l1 := [(0, .ref 3)]) (st1 := [.ref 3]) (kr1 := (4, 2)) (h1 := zh) rfl ?_
  refine wp_now (rest := []) rfl ?_
  refine wp_run (k := 2) (pc1 := 8) (l1 := [(0, .ref 3)]) (st1 := [.ref 4, .ref 3]) (kr1 := (5, 2)) (h1 := am_z zh 4) rfl ?_
  rw [am_z_0 (zZ_le (zj := 4) q_z (by decide)) (by decide)]
  refine wp_run (k := 1) (pc1 := 9) (l1 := [(0, .ref 3)]) (st1 := [.ref 4, .ref 4, .ref 3]) (kr1 := (5, 2)) (h1 := zh) rfl ?_
  refine wp_call (md1 := am_m_Lots_init) (As := [.ref 4]) (rest := [.ref 4, .ref 3]) (kr1 := (9, 6)) rfl (ji_Lots_init_4 _ (by omega) (zZ_le q_z (by decide))) ?_
  rintro _ _ ⟨rfl, rfl⟩
  refine wp_run (k := 1) (pc1 := 15) (l1 := [(0, .ref 3)]) (st1 := []) (kr1 := (9, 7)) (h1 := zh) rfl ?_
  refine wp_run (k := 3) (pc1 := 20) (l1 := [(0, .ref 3)]) (st1 := []) (kr1 := (9, 7)) (h1 := am_wr zh 3 1 (iN (0))) rfl ?_
  rw [am_wr_z q_z (by decide) (by decide)]
  refine wp_run (k := 3) (pc1 := 25) (l1 := [(0, .ref 3)]) (st1 := [.ref 9, .ref 3]) (kr1 := (10, 7)) (h1 := am_z zh 9) rfl ?_
  rw [am_z_0 (zZ_le (zj := 9) q_z (by decide)) (by decide)]
  refine wp_run (k := 1) (pc1 := 28) (l1 := [(0, .ref 3)]) (st1 := []) (kr1 := (10, 8)) (h1 := zh) rfl ?_
  refine wp_run (k := 3) (pc1 := 33) (l1 := [(0, .ref 3)]) (st1 := [.ref 10, .ref 3]) (kr1 := (11, 8)) (h1 := am_z zh 10) rfl ?_
  rw [am_z_0 (zZ_le (zj := 10) q_z (by decide)) (by decide)]
  refine wp_run (k := 1) (pc1 := 36) (l1 := [(0, .ref 3)]) (st1 := []) (kr1 := (11, 9)) (h1 := zh) rfl ?_
  refine wp_run (k := 3) (pc1 := 41) (l1 := [(0, .ref 3)]) (st1 := [.ref 11, .ref 3]) (kr1 := (12, 9)) (h1 := am_z zh 11) rfl ?_
  rw [am_z_0 (zZ_le (zj := 11) q_z (by decide)) (by decide)]
  refine wp_run (k := 1) (pc1 := 44) (l1 := [(0, .ref 3)]) (st1 := []) (kr1 := (12, 10)) (h1 := zh) rfl ?_
  refine wp_run (k := 3) (pc1 := 49) (l1 := [(0, .ref 3)]) (st1 := [.ref 12, .ref 3]) (kr1 := (13, 10)) (h1 := am_z zh 12) rfl ?_
  rw [am_z_0 (zZ_le (zj := 12) q_z (by decide)) (by decide)]
  refine wp_run (k := 1) (pc1 := 52) (l1 := [(0, .ref 3)]) (st1 := []) (kr1 := (13, 11)) (h1 := zh) rfl ?_
  refine wp_run (k := 3) (pc1 := 57) (l1 := [(0, .ref 3)]) (st1 := [.ref 13, .ref 3]) (kr1 := (14, 11)) (h1 := am_z zh 13) rfl ?_
  rw [am_z_0 (zZ_le (zj := 13) q_z (by decide)) (by decide)]
  refine wp_run (k := 1) (pc1 := 60) (l1 := [(0, .ref 3)]) (st1 := []) (kr1 := (14, 12)) (h1 := zh) rfl ?_
  refine wp_run (k := 3) (pc1 := 65) (l1 := [(0, .ref 3)]) (st1 := [.ref 14, .ref 3]) (kr1 := (15, 12)) (h1 := am_z zh 14) rfl ?_
  rw [am_z_0 (zZ_le (zj := 14) q_z (by decide)) (by decide)]
  refine wp_run (k := 1) (pc1 := 68) (l1 := [(0, .ref 3)]) (st1 := []) (kr1 := (15, 13)) (h1 := zh) rfl ?_
  refine wp_run (k := 3) (pc1 := 73) (l1 := [(0, .ref 3)]) (st1 := [.ref 15, .ref 3]) (kr1 := (16, 13)) (h1 := am_z zh 15) rfl ?_
  rw [am_z_0 (zZ_le (zj := 15) q_z (by decide)) (by decide)]
  refine wp_run (k := 1) (pc1 := 76) (l1 := [(0, .ref 3)]) (st1 := []) (kr1 := (16, 14)) (h1 := zh) rfl ?_
  refine wp_run (k := 3) (pc1 := 81) (l1 := [(0, .ref 3)]) (st1 := [.ref 16, .ref 3]) (kr1 := (17, 14)) (h1 := am_z zh 16) rfl ?_
  rw [am_z_0 (zZ_le (zj := 16) q_z (by decide)) (by decide)]
  refine wp_run (k := 1) (pc1 := 84) (l1 := [(0, .ref 3)]) (st1 := []) (kr1 := (17, 15)) (h1 := zh) rfl ?_
  refine wp_run (k := 3) (pc1 := 89) (l1 := [(0, .ref 3)]) (st1 := [.ref 17, .ref 3]) (kr1 := (18, 15)) (h1 := am_z zh 17) rfl ?_
  rw [am_z_0 (zZ_le (zj := 17) q_z (by decide)) (by decide)]
  refine wp_run (k := 1) (pc1 := 92) (l1 := [(0, .ref 3)]) (st1 := []) (kr1 := (18, 16)) (h1 := zh) rfl ?_
  refine wp_run (k := 3) (pc1 := 97) (l1 := [(0, .ref 3)]) (st1 := []) (kr1 := (18, 16)) (h1 := am_wr zh 3 11 (iN (0))) rfl ?_
  rw [am_wr_z q_z (by decide) (by decide)]
  refine wp_run (k := 3) (pc1 := 102) (l1 := [(0, .ref 3)]) (st1 := []) (kr1 := (18, 16)) (h1 := am_wr zh 3 12 (iN (0))) rfl ?_
  rw [am_wr_z q_z (by decide) (by decide)]
  refine wp_run (k := 3) (pc1 := 107) (l1 := [(0, .ref 3)]) (st1 := []) (kr1 := (18, 16)) (h1 := am_wr zh 3 13 (iN (1))) rfl ?_
  refine wp_ret (rv := none) rfl ?_
  exact ⟨rfl, rfl⟩
set_option maxRecDepth 20000 in
set_option maxHeartbeats 4000000 in
theorem ji_Plan_init_36 (zd : Nat) (q_d : 2 ≤ zd) {zh : am_H} (q_z : zZ 36 zh) : am_wp zd am_m_Plan_init 0 [(0, .ref 36)] [] (37, 35) zh (51, 49) (fun rv h' => rv = none ∧ am_wr zh 36 13 (iN 1) = h') := by
  obtain ⟨zd, rfl⟩ : ∃ y_e, zd = y_e + 2 := ⟨zd - 2, by omega⟩
  refine wp_run (k := 1) (pc1 := 1) (l1 := [(0, .ref 36)]) (st1 := [.ref 36]) (kr1 := (37, 35)) (h1 := zh) rfl ?_
  refine wp_now (rest := []) rfl ?_
  refine wp_run (k := 2) (pc1 := 8) (l1 := [(0, .ref 36)]) (st1 := [.ref 37, .ref 36]) (kr1 := (38, 35)) (h1 := am_z zh 37) rfl ?_
  rw [am_z_0 (zZ_le (zj := 37) q_z (by decide)) (by decide)]
  refine wp_run (k := 1) (pc1 := 9) (l1 := [(0, .ref 36)]) (st1 := [.ref 37, .ref 37, .ref 36]) (kr1 := (38, 35)) (h1 := zh) rfl ?_
  refine wp_call (md1 := am_m_Lots_init) (As := [.ref 37]) (rest := [.ref 37, .ref 36]) (kr1 := (42, 39)) rfl (ji_Lots_init_37 _ (by omega) (zZ_le q_z (by decide))) ?_
  rintro _ _ ⟨rfl, rfl⟩
  refine wp_run (k := 1) (pc1 := 15) (l1 := [(0, .ref 36)]) (st1 := []) (kr1 := (42, 40)) (h1 := zh) rfl ?_
  refine wp_run (k := 3) (pc1 := 20) (l1 := [(0, .ref 36)]) (st1 := []) (kr1 := (42, 40)) (h1 := am_wr zh 36 1 (iN (0))) rfl ?_
  rw [am_wr_z q_z (by decide) (by decide)]
  refine wp_run (k := 3) (pc1 := 25) (l1 := [(0, .ref 36)]) (st1 := [.ref 42, .ref 36]) (kr1 := (43, 40)) (h1 := am_z zh 42) rfl ?_
  rw [am_z_0 (zZ_le (zj := 42) q_z (by decide)) (by decide)]
  refine wp_run (k := 1) (pc1 := 28) (l1 := [(0, .ref 36)]) (st1 := []) (kr1 := (43, 41)) (h1 := zh) rfl ?_
  refine wp_run (k := 3) (pc1 := 33) (l1 := [(0, .ref 36)]) (st1 := [.ref 43, .ref 36]) (kr1 := (44, 41)) (h1 := am_z zh 43) rfl ?_
  rw [am_z_0 (zZ_le (zj := 43) q_z (by decide)) (by decide)]
  refine wp_run (k := 1) (pc1 := 36) (l1 := [(0, .ref 36)]) (st1 := []) (kr1 := (44, 42)) (h1 := zh) rfl ?_
  refine wp_run (k := 3) (pc1 := 41) (l1 := [(0, .ref 36)]) (st1 := [.ref 44, .ref 36]) (kr1 := (45, 42)) (h1 := am_z zh 44) rfl ?_
  rw [am_z_0 (zZ_le (zj := 44) q_z (by decide)) (by decide)]
  refine wp_run (k := 1) (pc1 := 44) (l1 := [(0, .ref 36)]) (st1 := []) (kr1 := (45, 43)) (h1 := zh) rfl ?_
  refine wp_run (k := 3) (pc1 := 49) (l1 := [(0, .ref 36)]) (st1 := [.ref 45, .ref 36]) (kr1 := (46, 43)) (h1 := am_z zh 45) rfl ?_
  rw [am_z_0 (zZ_le (zj := 45) q_z (by decide)) (by decide)]
  refine wp_run (k := 1) (pc1 := 52) (l1 := [(0, .ref 36)]) (st1 := []) (kr1 := (46, 44)) (h1 := zh) rfl ?_
  refine wp_run (k := 3) (pc1 := 57) (l1 := [(0, .ref 36)]) (st1 := [.ref 46, .ref 36]) (kr1 := (47, 44)) (h1 := am_z zh 46) rfl ?_
  rw [am_z_0 (zZ_le (zj := 46) q_z (by decide)) (by decide)]
  refine wp_run (k := 1) (pc1 := 60) (l1 := [(0, .ref 36)]) (st1 := []) (kr1 := (47, 45)) (h1 := zh) rfl ?_
  refine wp_run (k := 3) (pc1 := 65) (l1 := [(0, .ref 36)]) (st1 := [.ref 47, .ref 36]) (kr1 := (48, 45)) (h1 := am_z zh 47) rfl ?_
  rw [am_z_0 (zZ_le (zj := 47) q_z (by decide)) (by decide)]
  refine wp_run (k := 1) (pc1 := 68) (l1 := [(0, .ref 36)]) (st1 := []) (kr1 := (48, 46)) (h1 := zh) rfl ?_
  refine wp_run (k := 3) (pc1 := 73) (l1 := [(0, .ref 36)]) (st1 := [.ref 48, .ref 36]) (kr1 := (49, 46)) (h1 := am_z zh 48) rfl ?_
  rw [am_z_0 (zZ_le (zj := 48) q_z (by decide)) (by decide)]
  refine wp_run (k := 1) (pc1 := 76) (l1 := [(0, .ref 36)]) (st1 := []) (kr1 := (49, 47)) (h1 := zh) rfl ?_
  refine wp_run (k := 3) (pc1 := 81) (l1 := [(0, .ref 36)]) (st1 := [.ref 49, .ref 36]) (kr1 := (50, 47)) (h1 := am_z zh 49) rfl ?_
  rw [am_z_0 (zZ_le (zj := 49) q_z (by decide)) (by decide)]
  refine wp_run (k := 1) (pc1 := 84) (l1 := [(0, .ref 36)]) (st1 := []) (kr1 := (50, 48)) (h1 := zh) rfl ?_
  refine wp_run (k := 3) (pc1 := 89) (l1 := [(0, .ref 36)]) (st1 := [.ref 50, .ref 36]) (kr1 := (51, 48)) (h1 := am_z zh 50) rfl ?_
  rw [am_z_0 (zZ_le (zj := 50) q_z (by decide)) (by decide)]
  refine wp_run (k := 1) (pc1 := 92) (l1 := [(0, .ref 36)]) (st1 := []) (kr1 := (51, 49)) (h1 := zh) rfl ?_
  refine wp_run (k := 3) (pc1 := 97) (l1 := [(0, .ref 36)]) (st1 := []) (kr1 := (51, 49)) (h1 := am_wr zh 36 11 (iN (0))) rfl ?_
  rw [am_wr_z q_z (by decide) (by decide)]
  refine wp_run (k := 3) (pc1 := 102) (l1 := [(0, .ref 36)]) (st1 := []) (kr1 := (51, 49)) (h1 := am_wr zh 36 12 (iN (0))) rfl ?_
  rw [am_wr_z q_z (by decide) (by decide)]
  refine wp_run (k := 3) (pc1 := 107) (l1 := [(0, .ref 36)]) (st1 := []) (kr1 := (51, 49)) (h1 := am_wr zh 36 13 (iN (1))) rfl ?_
  refine wp_ret (rv := none) rfl ?_
  exact ⟨rfl, rfl⟩
