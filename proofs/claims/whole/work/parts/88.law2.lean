/-! THE LAW, from its start -/
def zP0 : zSta := zSt8 8 (fun w _ => zF1 w) 999 0 (fun _ => 0) 0 0 (fun _ w _ => zF1 w) (fun _ => 999) (fun _ => 0) 0 (fun _ => 32) (fun _ => -1) (fun _ => 0) 0 (fun w _ => zF1 w) 999 0 (fun _ => 0)
theorem zGk_0 : zGk 8 (fun w _ => zF1 w) 999 0 := ⟨⟨by decide, by decide⟩, fun w p y1 y2 y3 y4 => zF1_rg w ⟨y1, y2⟩, ⟨by decide, by decide⟩, Or.inl rfl⟩
theorem zHk_0 : zHk 8 (fun _ => 0) := ⟨fun p y1 y2 => ⟨Int.le_refl 0, show (0 : Int) ≤ 1584 by decide⟩, fun p y1 => rfl⟩
theorem zPu_0 : zPu zP0 := by
  refine ⟨zGk_0, zHk_0, ⟨Int.le_refl 0, Int.le_refl 0, show (0 : Int) ≤ 12 by decide⟩, ⟨fun k y1 y2 => zGk_0, rfl, rfl, rfl⟩, ⟨⟨Int.le_refl 0, show (0 : Int) ≤ 120 by decide⟩, fun k y1 y2 => ⟨show (32 : Int) ≤ 32 by decide, show (32 : Int) ≤ 126 by decide⟩⟩, fun k y1 y2 => ⟨show (-1 : Int) ≤ -1 by decide, show (-1 : Int) ≤ 20 by decide⟩, ⟨⟨Int.le_refl 0, show (0 : Int) ≤ 16 by decide⟩, fun y => absurd rfl y⟩⟩
theorem zIL_s {zg : am_H} (q_0 : ∀ c : Nat, c < 1000 → c ∉ [0, 1, 2, 3, 33, 34, 35, 36, 51, 52] → zg.1 c = (fun _ => 0)) (q_n : zNm (zg.1 1) (zg.1 2) 8 (fun w _ => zF1 w) 999 0) (q_1 : zg.1 1 2 = iN 1) (q_2 : zg.1 34 2 = iN 1) (q_3 : zg.1 3 1 = iN 0) (q_4 : zg.1 36 1 = iN 0) (q_5 : ∀ k : Int, 0 ≤ k → k < 4 → zg.1 33 k.toNat = iN (-1)) (q_6 : zg.1 0 13 = iN 0) : zIL 0 zP0 zg := by
  have q_00 : ∀ c j : Nat, c < 1000 → c ∉ [0, 1, 2, 3, 33, 34, 35, 36, 51, 52] → zg.1 c j = iN 0 := fun c j y1 y2 => (congrFun (q_0 c y1 y2) j).trans iN_0.symm
  refine ⟨q_n, fun p y1 y2 => q_00 24 _ (by decide) (by decide), ⟨q_00 25 1 (by decide) (by decide), q_00 25 2 (by decide) (by decide), fun k (y1 : (0 : Int) ≤ k) (y2 : k ≤ 0) y3 => absurd ⟨(by omega : k = 0), rfl⟩ y3⟩, ⟨q_00 27 1 (by decide) (by decide), fun k (y1 : (0 : Int) ≤ k) (y2 : k < 0) => by omega⟩, ⟨q_5, fun k i y1 y2 (y3 : (0 : Int) ≤ i) (y4 : i < -1) => by omega⟩, ⟨q_6, fun y => absurd rfl y⟩, ?_⟩
  refine ⟨1, 0, 0, 1, 0, ⟨q_1, q_3, q_00 18 0 (by decide) (by decide), q_2, q_4⟩, by decide, by decide, by decide, by decide, ⟨q_00 8 0 (by decide) (by decide), q_00 41 0 (by decide) (by decide)⟩, fun y => absurd y (by decide), fun y => absurd y (by decide)⟩
theorem zIR_s {zg : am_H} (q_n : zMm (zg.1 55) (zg.1 56) 8 (fun w _ => zF1 w) 999 0) (q_1 : ∀ p : Int, 0 ≤ p → p < 8 → zg.1 57 p.toNat = iN 0) (q_2 : zg.1 55 4 = iN 0) (q_3 : zg.1 55 5 = iN 0) (q_4 : zRw (zg.1 58) 0 8 (fun w _ => zF1 w) 999 0) (q_5 : zg.1 55 7 = iN 0) (q_6 : zg.1 55 36 = iN 0) (q_7 : ∀ k : Int, 0 ≤ k → k < 4 → zg.1 74 k.toNat = iN (-1)) : zIR zP0 zg := by
  refine ⟨q_n, q_1, ⟨q_2, q_3, fun k (y1 : (0 : Int) ≤ k) (y2 : k ≤ 0) => ?_⟩, ⟨q_5, fun k (y1 : (0 : Int) ≤ k) (y2 : k < 0) => by omega⟩, ⟨q_7, fun k i y1 y2 (y3 : (0 : Int) ≤ i) (y4 : i < -1) => by omega⟩, ⟨q_6, fun y => absurd rfl y⟩⟩
  have y3 : k = 0 := by omega
  subst y3
  exact q_4
set_option maxRecDepth 20000 in
set_option maxHeartbeats 4000000 in
theorem jl_start (zd : Nat) (q_d : 10 ≤ zd) {zh : am_H} {xs : Nat → Int32} {zL : Nat} (q_z : zZ 0 zh) (q_s : zh.1 1050 = xs) (q_l : zh.1 1051 0 = iN (zL : Int)) (q_L : zL ≤ 2560) : am_wp zd am_m_Law_law 0 [(0, .ref 1050)] [] (0, 0) zh (78, 76) (fun rv h' => rv = some (.int (iN 1))) := by
  obtain ⟨zd, rfl⟩ : ∃ y_e, zd = y_e + 10 := ⟨zd - 10, by omega⟩
  refine wp_run (k := 1) (pc1 := 3) (l1 := [(0, .ref 1050)]) (st1 := [.ref 0]) (kr1 := (1, 0)) (h1 := am_z zh 0) rfl ?_
  rw [am_z_0 (zZ_le (zj := 0) q_z (by decide)) (by decide)]
  refine wp_run (k := 1) (pc1 := 4) (l1 := [(0, .ref 1050)]) (st1 := [.ref 0, .ref 0]) (kr1 := (1, 0)) (h1 := zh) rfl ?_
  refine wp_call (md1 := am_m_Lp_init) (As := [.ref 0]) (rest := [.ref 0]) (kr1 := (55, 54)) rfl (ji_Lp_init _ (by omega) (zZ_le (zj := 0) q_z (by decide))) ?_
  rintro _ zg1 ⟨rfl, q_f1, q_n1, q_a1, q_b1, q_c1, q_d1, q_e1, q_g1⟩
  have q_z1 : zZ 55 zg1 := zZ_f (zZ_le (zj := 55) q_z (by decide)) q_f1 (by decide)
  have q_I1 : zIL 0 zP0 zg1 := zIL_s (fun c y1 y2 => (q_f1.2 c y2).trans (q_z c (Nat.zero_le c) y1).1) q_n1 q_a1 q_b1 q_c1 q_d1 q_e1 q_g1
  refine wp_run (k := 2) (pc1 := 11) (l1 := [(0, .ref 1050), (1, .ref 0)]) (st1 := [.ref 55]) (kr1 := (56, 54)) (h1 := am_z zg1 55) rfl ?_
  rw [am_z_0 (zZ_le (zj := 55) q_z1 (by decide)) (by decide)]
  refine wp_run (k := 1) (pc1 := 12) (l1 := [(0, .ref 1050), (1, .ref 0)]) (st1 := [.ref 55, .ref 55]) (kr1 := (56, 54)) (h1 := zg1) rfl ?_
  refine wp_call (md1 := am_m_Model_init) (As := [.ref 55]) (rest := [.ref 55]) (kr1 := (78, 76)) rfl (ji_Model_init _ (by omega) (zZ_le (zj := 55) q_z1 (by decide))) ?_
  rintro _ zg2 ⟨rfl, q_f2, q_n2, q_a2, q_b2, q_c2, q_d2, q_e2, q_g2, q_h2⟩
  have q_I2 : zIL 0 zP0 zg2 := zIL_k (zKR_f q_f2 (by decide)) q_I1
  have q_R2 : zIR zP0 zg2 := zIR_s q_n2 q_a2 q_b2 q_c2 q_d2 q_e2 q_g2 q_h2
  have q_s2 : zg2.1 1050 = xs := ((q_f2.2 1050 (by decide)).trans (q_f1.2 1050 (by decide))).trans q_s
  have q_l2 : zg2.1 1051 0 = iN (zL : Int) := (congrFun ((q_f2.2 1051 (by decide)).trans (q_f1.2 1051 (by decide))) 0).trans q_l
  refine wp_run (k := 3) (pc1 := 18) (l1 := [(0, .ref 1050), (1, .ref 0), (2, .ref 55), (3, .int (iN (0)))]) (st1 := []) (kr1 := (78, 76)) (h1 := zg2) rfl ?_
  exact jl_law _ (by omega) q_L (fun _ => rfl) (zL + 7) zg2 zP0 0 0 zPu_0 q_I2 q_R2 q_s2 q_l2 (by omega) (by omega)
theorem am_law (xs : Nat → Int32) (L : Nat) (hL : L ≤ 2560) : ∃ (n : Nat) (h' : am_H), am_exec n 20 am_m_Law_law 0 [(0, .ref 1050)] [] (0, 0) ((fun c k => if c = 1050 then xs k else if c = 1051 then nI L else 0, fun _ _ => 0) : am_H) = some (some (.int 1), (78, 76), h') := by
  obtain ⟨n, rv, h', q1, q2⟩ := jl_start (zh := ((fun c k => if c = 1050 then xs k else if c = 1051 then nI L else 0, fun _ _ => 0) : am_H)) (xs := xs) (zL := L) 20 (by decide) (fun c y1 y2 => ⟨by funext k; show (if c = 1050 then xs k else if c = 1051 then nI L else 0) = 0; rw [if_neg (by omega), if_neg (by omega)], rfl⟩) (by funext k; show (if 1050 = 1050 then xs k else if 1050 = 1051 then nI L else 0) = xs k; exact if_pos rfl) (by show (if 1051 = 1050 then xs 0 else if 1051 = 1051 then nI L else 0) = iN (L : Int); rw [if_neg (by decide), if_pos rfl]; exact (iN_nI L).symm) hL
  subst q2
  have y1 : iN 1 = 1 := by decide
  rw [y1] at q1
  exact ⟨n, h', q1⟩
