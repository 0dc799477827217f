/-! THE CLASS's Lots: reckon -/
def zKa (za a b : Int) : Nat := if a < za then (b + 1 - a).toNat else 0
def zKm (za zm a b : Int) : Nat := if a < za then (b + 1 - a).toNat else if a = za then (min zm (b + 1) - za).toNat else 0
theorem zKm_s {za zm a b : Int} (q : za ≤ zm) (q2 : a ≤ b) : (if a = za ∧ zm ≤ b then zKm za zm a b + 1 else zKm za zm a b) = zKm za (zm + 1) a b := by
  unfold zKm
  (repeat' split) <;> omega
theorem zKm_0 {za a b : Int} (q2 : a ≤ b) : zKa za a b = zKm za za a b := by
  unfold zKm zKa
  (repeat' split) <;> omega
theorem zKm_e {za zm a b : Int} (q2 : a ≤ b) (q3 : a = za → b < zm) : zKm za zm a b = zKa (za + 1) a b := by
  unfold zKm zKa
  (repeat' split) <;> omega
theorem zEn_fin {cC cM cS : Nat} {zh : am_H} {G : Int → Int → Int} {T a b : Int} {k : Nat} (q : zEn cC cM cS zh G T a b k) : ∀ j : Nat, (∀ m : Int, a + k ≤ m → m < a + k + j → ¬ zIsL G T a b m) → zEn cC cM cS zh G T a b (k + j) := by
  intro j
  induction j with
  | zero => intro _; exact q
  | succ j z_ih =>
    intro y
    exact zEn_no (k := k + j) (z_ih (fun m y1 y2 => y m y1 (by omega))) (show ¬ zIsL G T a b (a + ((k + j : Nat) : Int)) from y _ (by omega) (by omega))
theorem zEn_end {cC cM cS : Nat} {zh : am_H} {N : Int} {G : Int → Int → Int} {S T za zm b : Int} (q_g : zGk N G S T) (q_T : T = 0) (q_0 : 0 ≤ za ∧ za ≤ zm) (q_b : za ≤ b ∧ b < N) (q_d : ¬ zD G za (zm - 1) = 0) (q : zEn cC cM cS zh G T za b (zKm za zm za b)) : zEn cC cM cS zh G T za b (zKa (za + 1) za b) := by
  have y1 : zKm za zm za b = (min zm (b + 1) - za).toNat := by unfold zKm; rw [if_neg (by omega), if_pos rfl]
  have y2 : zKa (za + 1) za b = (min zm (b + 1) - za).toNat + (b + 1 - min zm (b + 1)).toNat := by unfold zKa; rw [if_pos (by omega)]; omega
  rw [y1] at q
  rw [y2]
  refine zEn_fin q _ (fun m y3 y4 y5 => ?_)
  have y6 := zPi_rg q_g (a := za) (b := zm) (by omega) (by omega) (by omega)
  have y7 := zPi_rg q_g (a := zm) (b := m) (by omega) (by omega) (by omega)
  rcases y5.2 with y8 | y8
  · omega
  · unfold zD at y8 q_d
    rw [show m - 1 + 1 = m by omega] at y8
    rw [show zm - 1 + 1 = zm by omega] at q_d
    omega
/-- the class's table of lots is the numbers' -/
def zLots (cC cM cS cA : Nat) (zg : am_H) (N : Int) (G : Int → Int → Int) (T : Int) : Prop := (∀ k : Int, 0 ≤ k → k ≤ N → zg.1 cA k.toNat = iN (zPi G k)) ∧ ∀ a b : Int, 0 ≤ a → a ≤ b → b < N → zEn cC cM cS zg G T a b (b + 1 - a).toNat
set_option maxRecDepth 20000 in
set_option maxHeartbeats 4000000 in
theorem jl_rekM_4 (zd : Nat) (q_d : 3 ≤ zd) {zh : am_H} {N : Int} {G : Int → Int → Int} {S T : Int} {za : Int} (q_nm : zNm (zh.1 1) (zh.1 2) N G S T) (q_g : zGk N G S T) (q_0 : 0 ≤ za ∧ za < N) {zQ : Option Value → am_H → Prop} (zk : ∀ zg : am_H, am_fr [5, 6, 7, 8] zh zg → (∀ k : Int, 0 ≤ k → k ≤ N → zg.1 8 k.toNat = iN (zPi G k)) → (∀ a b : Int, 0 ≤ a → a ≤ b → b < N → zEn 5 6 7 zg G T a b (zKa (za + 1) a b)) → am_wp zd am_m_Lots_reckon 142 [(0, .ref 4), (1, .ref 1), (2, .int (iN (N))), (3, .int (iN (za)))] [] (78, 76) zg (78, 76) zQ) : ∀ (z_n : Nat) (zg : am_H) (zm : Int) (zo : Int) (q_f : am_fr [5, 6, 7, 8] zh zg) (q_ah1 : ∀ k : Int, 0 ≤ k → k ≤ N → zg.1 8 k.toNat = iN (zPi G k)) (q_m : za ≤ zm ∧ zm ≤ N) (q_o : zo = zOw G za zm) (q_e : ∀ a b : Int, 0 ≤ a → a ≤ b → b < N → zEn 5 6 7 zg G T a b (zKm za zm a b)), N - zm < (z_n : Int) → am_wp zd am_m_Lots_reckon 81 [(0, .ref 4), (1, .ref 1), (2, .int (iN (N))), (3, .int (iN (za))), (4, .int (iN (zo))), (5, .int (iN (zm)))] [] (78, 76) zg (78, 76) zQ := by
  obtain ⟨zd, rfl⟩ : ∃ y_e, zd = y_e + 3 := ⟨zd - 3, by omega⟩
  intro z_n
  induction z_n with
  | zero => intro zg zm zo q_f q_ah1 q_m q_o q_e q_m; omega
  | succ z_n z_ih =>
    intro zg zm zo q_f q_ah1 q_m q_o q_e q_m
    have q_N := q_g.1
    have q_T := q_g.2.2.2
    have q_nm1 := zNm_f q_f q_nm (by decide) (by decide)
    refine wp_run (k := 2) (pc1 := 84) (l1 := [(0, .ref 4), (1, .ref 1), (2, .int (iN (N))), (3, .int (iN (za))), (4, .int (iN (zo))), (5, .int (iN (zm)))]) (st1 := [.int (iN (N)), .int (iN (zm))]) (kr1 := (78, 76)) (h1 := zg) rfl ?_
    refine wp_ge (a := zm) (b := N) rfl (by omega) (by omega) (fun b_84 => ?_) (fun b_84 => ?_)
    · refine wp_drop [4, 5] (l := [(0, .ref 4), (1, .ref 1), (2, .int (iN (N))), (3, .int (iN (za)))]) rfl rfl ?_
      exact zk zg q_f q_ah1 (fun a b y1 y2 y3 => by rw [← zKm_e (zm := zm) y2 (by omega)]; exact q_e a b y1 y2 y3)
    · refine wp_run (k := 1) (pc1 := 88) (l1 := [(0, .ref 4), (1, .ref 1), (2, .int (iN (N))), (3, .int (iN (za))), (4, .int (iN (zo))), (5, .int (iN (zm)))]) (st1 := [.ref 1]) (kr1 := (78, 76)) (h1 := zg) rfl ?_
      refine wp_call (md1 := am_m_Numbers_lateMayBe) (As := [.ref 1]) (rest := []) (kr1 := (78, 76)) rfl (jt_lateMayBe_1 _ (by omega) q_nm1 q_g) ?_
      rintro _ _ ⟨rfl, rfl⟩
      refine wp_ne0 (a := T) rfl (by omega) (fun b_91 => ?_) (fun b_91 => ?_)
      · refine wp_run (k := 5) (pc1 := 113) (l1 := [(0, .ref 4), (1, .ref 1), (2, .int (iN (N))), (3, .int (iN (za))), (4, .int (iN (zo))), (5, .int (iN (zm)))]) (st1 := [.int (iN (zo)), .int (iN (zm)), .int (iN (za)), .ref 1, .ref 4]) (kr1 := (78, 76)) (h1 := zg) rfl ?_
        refine wp_call (md1 := am_m_Lots_reckonMadeIn) (As := [.ref 4, .ref 1, .int (iN (za)), .int (iN (zm)), .int (iN (zo))]) (rest := []) (kr1 := (78, 76)) rfl (jt_madeIn_4 (S := S) (K := zKm za zm) _ (by omega) q_nm1 q_g q_ah1 (fun b y1 y2 => by unfold zKm; rw [if_neg (by omega), if_pos rfl]; omega) (by omega) (by omega) q_o q_e) ?_
        rintro _ zg1 ⟨rfl, q_f1, q_e1⟩
        have q_f2 : am_fr [5, 6, 7, 8] zh zg1 := am_fr_t q_f (am_fr_m q_f1 (fun c y => by simp only [List.mem_cons, List.not_mem_nil, or_false] at y ⊢; omega))
        have q_nm2 := zNm_f q_f2 q_nm (by decide) (by decide)
        have q_ah2 : ∀ k : Int, 0 ≤ k → k ≤ N → zg1.1 8 k.toNat = iN (zPi G k) := by rw [q_f1.2 8 (by decide)]; exact q_ah1
        refine wp_run (k := 4) (pc1 := 122) (l1 := [(0, .ref 4), (1, .ref 1), (2, .int (iN (N))), (3, .int (iN (za))), (4, .int (iN (zo))), (5, .int (iN (zm)))]) (st1 := [.int (iN (4)), .int (iN (zm)), .ref 1, .int (iN (zo))]) (kr1 := (78, 76)) (h1 := zg1) rfl ?_
        refine wp_call (md1 := am_m_Numbers_value) (As := [.ref 1, .int (iN (zm)), .int (iN (4))]) (rest := [.int (iN (zo))]) (kr1 := (78, 76)) rfl (jt_value_1 _ (by omega) q_nm2 q_g (zp := zm) (zw := 4) (by omega) (by omega)) ?_
        rintro _ _ ⟨rfl, rfl⟩
        refine wp_run (k := 3) (pc1 := 129) (l1 := [(0, .ref 4), (1, .ref 1), (2, .int (iN (N))), (3, .int (iN (za))), (4, .int (iN (zo))), (5, .int (iN (zm)))]) (st1 := [.int (iN (zm)), .int (iN (za)), .ref 4, .int (iN (G (4) (zm))), .int (iN (zo))]) (kr1 := (78, 76)) (h1 := zg1) rfl ?_
        refine wp_call (md1 := am_m_Lots_pieces) (As := [.ref 4, .int (iN (za)), .int (iN (zm))]) (rest := [.int (iN (G (4) (zm))), .int (iN (zo))]) (kr1 := (78, 76)) rfl (jt_lpieces_4 _ (by omega) q_ah2 q_N.2 (za := za) (zb := zm) (by omega)) ?_
        rintro _ _ ⟨rfl, rfl⟩
        refine wp_run (k := 5) (pc1 := 81) (l1 := [(0, .ref 4), (1, .ref 1), (2, .int (iN (N))), (3, .int (iN (za))), (4, .int (iN ((zo) + ((G (4) (zm)) * (zD G (za) (zm)))))), (5, .int (iN ((zm) + 1)))]) (st1 := []) (kr1 := (78, 76)) (h1 := zg1) (Eq.trans (b := (some (81, [(0, .ref 4), (1, .ref 1), (2, .int (iN (N))), (3, .int (iN (za))), (4, .int ((iN (zo)) + ((iN (G (4) (zm))) * (iN (zD G (za) (zm)))))), (5, .int ((iN (zm)) + iN (1)))], [], (78, 76), zg1) : Option am_C)) rfl (by simp only [Int32.ofInt_add, Int32.ofInt_sub, Int32.ofInt_mul, Int32.ofInt_neg])) ?_
        exact z_ih zg1 (zm + 1) ((zo) + ((G (4) (zm)) * (zD G (za) (zm)))) q_f2 q_ah2 (by omega) (by rw [zOw_s G za zm (by omega), q_o]) (fun a b y1 y2 y3 => by rw [← zKm_s (by omega) y2]; exact q_e1 a b y1 y2 y3) (by omega)
      · have y_d := zD_rg q_g (a := za) (b := zm - 1) (by omega) (by omega) (by omega)
        refine wp_run (k := 5) (pc1 := 100) (l1 := [(0, .ref 4), (1, .ref 1), (2, .int (iN (N))), (3, .int (iN (za))), (4, .int (iN (zo))), (5, .int (iN (zm)))]) (st1 := [.int (iN ((zm) - (1))), .int (iN (za)), .ref 4]) (kr1 := (78, 76)) (h1 := zg) (Eq.trans (b := (some (100, [(0, .ref 4), (1, .ref 1), (2, .int (iN (N))), (3, .int (iN (za))), (4, .int (iN (zo))), (5, .int (iN (zm)))], [.int ((iN (zm)) - (iN (1))), .int (iN (za)), .ref 4], (78, 76), zg) : Option am_C)) rfl (by simp only [Int32.ofInt_add, Int32.ofInt_sub, Int32.ofInt_mul, Int32.ofInt_neg])) ?_
        refine wp_call (md1 := am_m_Lots_pieces) (As := [.ref 4, .int (iN (za)), .int (iN ((zm) - (1)))]) (rest := []) (kr1 := (78, 76)) rfl (jt_lpieces_4 _ (by omega) q_ah1 q_N.2 (za := za) (zb := (zm) - (1)) (by omega)) ?_
        rintro _ _ ⟨rfl, rfl⟩
        refine wp_ne0 (a := zD G (za) ((zm) - (1))) rfl (by omega) (fun b_103 => ?_) (fun b_103 => ?_)
        · refine wp_drop [4, 5] (l := [(0, .ref 4), (1, .ref 1), (2, .int (iN (N))), (3, .int (iN (za)))]) rfl rfl ?_
          refine zk zg q_f q_ah1 (fun a b y1 y2 y3 => ?_)
          by_cases y4 : a = za
          · rw [y4] at y2 ⊢; exact zEn_end q_g (by omega) (by omega) ⟨y2, y3⟩ b_103 (q_e za b (by omega) y2 y3)
          · rw [← zKm_e (zm := zm) y2 (fun y => absurd y y4)]; exact q_e a b y1 y2 y3
        · refine wp_run (k := 5) (pc1 := 113) (l1 := [(0, .ref 4), (1, .ref 1), (2, .int (iN (N))), (3, .int (iN (za))), (4, .int (iN (zo))), (5, .int (iN (zm)))]) (st1 := [.int (iN (zo)), .int (iN (zm)), .int (iN (za)), .ref 1, .ref 4]) (kr1 := (78, 76)) (h1 := zg) rfl ?_
          refine wp_call (md1 := am_m_Lots_reckonMadeIn) (As := [.ref 4, .ref 1, .int (iN (za)), .int (iN (zm)), .int (iN (zo))]) (rest := []) (kr1 := (78, 76)) rfl (jt_madeIn_4 (S := S) (K := zKm za zm) _ (by omega) q_nm1 q_g q_ah1 (fun b y1 y2 => by unfold zKm; rw [if_neg (by omega), if_pos rfl]; omega) (by omega) (by omega) q_o q_e) ?_
          rintro _ zg1 ⟨rfl, q_f1, q_e1⟩
          have q_f2 : am_fr [5, 6, 7, 8] zh zg1 := am_fr_t q_f (am_fr_m q_f1 (fun c y => by simp only [List.mem_cons, List.not_mem_nil, or_false] at y ⊢; omega))
          have q_nm2 := zNm_f q_f2 q_nm (by decide) (by decide)
          have q_ah2 : ∀ k : Int, 0 ≤ k → k ≤ N → zg1.1 8 k.toNat = iN (zPi G k) := by rw [q_f1.2 8 (by decide)]; exact q_ah1
          refine wp_run (k := 4) (pc1 := 122) (l1 := [(0, .ref 4), (1, .ref 1), (2, .int (iN (N))), (3, .int (iN (za))), (4, .int (iN (zo))), (5, .int (iN (zm)))]) (st1 := [.int (iN (4)), .int (iN (zm)), .ref 1, .int (iN (zo))]) (kr1 := (78, 76)) (h1 := zg1) rfl ?_
          refine wp_call (md1 := am_m_Numbers_value) (As := [.ref 1, .int (iN (zm)), .int (iN (4))]) (rest := [.int (iN (zo))]) (kr1 := (78, 76)) rfl (jt_value_1 _ (by omega) q_nm2 q_g (zp := zm) (zw := 4) (by omega) (by omega)) ?_
          rintro _ _ ⟨rfl, rfl⟩
          refine wp_run (k := 3) (pc1 := 129) (l1 := [(0, .ref 4), (1, .ref 1), (2, .int (iN (N))), (3, .int (iN (za))), (4, .int (iN (zo))), (5, .int (iN (zm)))]) (st1 := [.int (iN (zm)), .int (iN (za)), .ref 4, .int (iN (G (4) (zm))), .int (iN (zo))]) (kr1 := (78, 76)) (h1 := zg1) rfl ?_
          refine wp_call (md1 := am_m_Lots_pieces) (As := [.ref 4, .int (iN (za)), .int (iN (zm))]) (rest := [.int (iN (G (4) (zm))), .int (iN (zo))]) (kr1 := (78, 76)) rfl (jt_lpieces_4 _ (by omega) q_ah2 q_N.2 (za := za) (zb := zm) (by omega)) ?_
          rintro _ _ ⟨rfl, rfl⟩
          refine wp_run (k := 5) (pc1 := 81) (l1 := [(0, .ref 4), (1, .ref 1), (2, .int (iN (N))), (3, .int (iN (za))), (4, .int (iN ((zo) + ((G (4) (zm)) * (zD G (za) (zm)))))), (5, .int (iN ((zm) + 1)))]) (st1 := []) (kr1 := (78, 76)) (h1 := zg1) (Eq.trans (b := (some (81, [(0, .ref 4), (1, .ref 1), (2, .int (iN (N))), (3, .int (iN (za))), (4, .int ((iN (zo)) + ((iN (G (4) (zm))) * (iN (zD G (za) (zm)))))), (5, .int ((iN (zm)) + iN (1)))], [], (78, 76), zg1) : Option am_C)) rfl (by simp only [Int32.ofInt_add, Int32.ofInt_sub, Int32.ofInt_mul, Int32.ofInt_neg])) ?_
          exact z_ih zg1 (zm + 1) ((zo) + ((G (4) (zm)) * (zD G (za) (zm)))) q_f2 q_ah2 (by omega) (by rw [zOw_s G za zm (by omega), q_o]) (fun a b y1 y2 y3 => by rw [← zKm_s (by omega) y2]; exact q_e1 a b y1 y2 y3) (by omega)
set_option maxRecDepth 20000 in
set_option maxHeartbeats 4000000 in
theorem jl_rekA_4 (zd : Nat) (q_d : 3 ≤ zd) {zh : am_H} {N : Int} {G : Int → Int → Int} {S T : Int} (q_nm : zNm (zh.1 1) (zh.1 2) N G S T) (q_g : zGk N G S T) {zQ : Option Value → am_H → Prop} (zk : ∀ zg : am_H, am_fr [5, 6, 7, 8] zh zg → (∀ k : Int, 0 ≤ k → k ≤ N → zg.1 8 k.toNat = iN (zPi G k)) → (∀ a b : Int, 0 ≤ a → a ≤ b → b < N → zEn 5 6 7 zg G T a b ((b + 1 - a).toNat)) → zQ none zg) : ∀ (z_n : Nat) (zg : am_H) (za : Int) (q_f : am_fr [5, 6, 7, 8] zh zg) (q_ah1 : ∀ k : Int, 0 ≤ k → k ≤ N → zg.1 8 k.toNat = iN (zPi G k)) (q_a : 0 ≤ za ∧ za ≤ N) (q_e : ∀ a b : Int, 0 ≤ a → a ≤ b → b < N → zEn 5 6 7 zg G T a b (zKa za a b)), N - za < (z_n : Int) → am_wp zd am_m_Lots_reckon 70 [(0, .ref 4), (1, .ref 1), (2, .int (iN (N))), (3, .int (iN (za)))] [] (78, 76) zg (78, 76) zQ := by
  obtain ⟨zd, rfl⟩ : ∃ y_e, zd = y_e + 3 := ⟨zd - 3, by omega⟩
  intro z_n
  induction z_n with
  | zero => intro zg za q_f q_ah1 q_a q_e q_m; omega
  | succ z_n z_ih =>
    intro zg za q_f q_ah1 q_a q_e q_m
    have q_N := q_g.1
    refine wp_run (k := 2) (pc1 := 72) (l1 := [(0, .ref 4), (1, .ref 1), (2, .int (iN (N))), (3, .int (iN (za)))]) (st1 := [.int (iN (N)), .int (iN (za))]) (kr1 := (78, 76)) (h1 := zg) rfl ?_
    refine wp_ge (a := za) (b := N) rfl (by omega) (by omega) (fun b_72 => ?_) (fun b_72 => ?_)
    · refine wp_ret (rv := none) rfl ?_
      exact zk zg q_f q_ah1 (fun a b y1 y2 y3 => by have y4 := q_e a b y1 y2 y3; unfold zKa at y4; rwa [if_pos (by omega)] at y4)
    · refine wp_run (k := 4) (pc1 := 81) (l1 := [(0, .ref 4), (1, .ref 1), (2, .int (iN (N))), (3, .int (iN (za))), (4, .int (iN (0))), (5, .int (iN (za)))]) (st1 := []) (kr1 := (78, 76)) (h1 := zg) rfl ?_
      refine jl_rekM_4 (S := S) _ (by omega) q_nm q_g (by omega) ?_ 17 zg za 0 q_f q_ah1 (by omega) (zOw_0 G za).symm (fun a b y1 y2 y3 => by rw [← zKm_0 y2]; exact q_e a b y1 y2 y3) (by omega)
      intro zg2 q_f2 q_ah2 q_e2
      refine wp_run (k := 2) (pc1 := 70) (l1 := [(0, .ref 4), (1, .ref 1), (2, .int (iN (N))), (3, .int (iN ((za) + 1)))]) (st1 := []) (kr1 := (78, 76)) (h1 := zg2) (Eq.trans (b := (some (70, [(0, .ref 4), (1, .ref 1), (2, .int (iN (N))), (3, .int ((iN (za)) + iN (1)))], [], (78, 76), zg2) : Option am_C)) rfl (by simp only [Int32.ofInt_add, Int32.ofInt_sub, Int32.ofInt_mul, Int32.ofInt_neg])) ?_
      exact z_ih zg2 (za + 1) q_f2 q_ah2 (by omega) q_e2 (by omega)
set_option maxRecDepth 20000 in
set_option maxHeartbeats 4000000 in
theorem jl_rekP_4 (zd : Nat) (q_d : 3 ≤ zd) {zh : am_H} {N : Int} {G : Int → Int → Int} {S T : Int} (q_nm : zNm (zh.1 1) (zh.1 2) N G S T) (q_g : zGk N G S T) {zQ : Option Value → am_H → Prop} (zk : ∀ zg : am_H, am_fr [5, 6, 7, 8] zh zg → (∀ k : Int, 0 ≤ k → k ≤ N → zg.1 8 k.toNat = iN (zPi G k)) → am_wp zd am_m_Lots_reckon 43 [(0, .ref 4), (1, .ref 1), (2, .int (iN (N))), (3, .int (iN (N)))] [] (78, 76) zg (78, 76) zQ) : ∀ (z_n : Nat) (zg : am_H) (zi : Int) (q_f : am_fr [5, 6, 7, 8] zh zg) (q_i : 0 ≤ zi ∧ zi ≤ N) (q_p : ∀ k : Int, 0 ≤ k → k ≤ zi → zg.1 8 k.toNat = iN (zPi G k)), N - zi < (z_n : Int) → am_wp zd am_m_Lots_reckon 7 [(0, .ref 4), (1, .ref 1), (2, .int (iN (N))), (3, .int (iN (zi)))] [] (78, 76) zg (78, 76) zQ := by
  obtain ⟨zd, rfl⟩ : ∃ y_e, zd = y_e + 3 := ⟨zd - 3, by omega⟩
  intro z_n
  induction z_n with
  | zero => intro zg zi q_f q_i q_p q_m; omega
  | succ z_n z_ih =>
    intro zg zi q_f q_i q_p q_m
    have q_N := q_g.1
    refine wp_run (k := 2) (pc1 := 9) (l1 := [(0, .ref 4), (1, .ref 1), (2, .int (iN (N))), (3, .int (iN (zi)))]) (st1 := [.int (iN (N)), .int (iN (zi))]) (kr1 := (78, 76)) (h1 := zg) rfl ?_
    refine wp_ge (a := zi) (b := N) rfl (by omega) (by omega) (fun b_9 => ?_) (fun b_9 => ?_)
    · have y_9 : zi = N := by omega
      rw [y_9] at q_p
      rw [y_9]
      exact zk zg q_f q_p
    · refine wp_run (k := 8) (pc1 := 24) (l1 := [(0, .ref 4), (1, .ref 1), (2, .int (iN (N))), (3, .int (iN (zi)))]) (st1 := [.int (iN (zi)), .ref 8, .int (iN ((zi) + (1))), .ref 8]) (kr1 := (78, 76)) (h1 := zg) (Eq.trans (b := (some (24, [(0, .ref 4), (1, .ref 1), (2, .int (iN (N))), (3, .int (iN (zi)))], [.int (iN (zi)), .ref 8, .int ((iN (zi)) + (iN (1))), .ref 8], (78, 76), zg) : Option am_C)) rfl (by simp only [Int32.ofInt_add, Int32.ofInt_sub, Int32.ofInt_mul, Int32.ofInt_neg])) ?_
      refine wp_call (md1 := am_m_Lp_at) (As := [.ref 8, .int (iN (zi))]) (rest := [.int (iN ((zi) + (1))), .ref 8]) (kr1 := (78, 76)) rfl (jt_at _ (by omega) (zn := 17) (zi := zi) (zv := iN (zPi G zi)) rfl rfl (by decide) (by omega) (by omega) (q_p zi (by omega) (by omega))) ?_
      rintro _ _ ⟨rfl, rfl⟩
      refine wp_run (k := 3) (pc1 := 30) (l1 := [(0, .ref 4), (1, .ref 1), (2, .int (iN (N))), (3, .int (iN (zi)))]) (st1 := [.int (iN (0)), .int (iN (zi)), .ref 1, .int (iN (zPi G zi)), .int (iN ((zi) + (1))), .ref 8]) (kr1 := (78, 76)) (h1 := zg) rfl ?_
      refine wp_call (md1 := am_m_Numbers_value) (As := [.ref 1, .int (iN (zi)), .int (iN (0))]) (rest := [.int (iN (zPi G zi)), .int (iN ((zi) + (1))), .ref 8]) (kr1 := (78, 76)) rfl (jt_value_1 _ (by omega) (zNm_f q_f q_nm (by decide) (by decide)) q_g (zp := zi) (zw := 0) (by omega) (by omega)) ?_
      rintro _ _ ⟨rfl, rfl⟩
      refine wp_run (k := 1) (pc1 := 34) (l1 := [(0, .ref 4), (1, .ref 1), (2, .int (iN (N))), (3, .int (iN (zi)))]) (st1 := [.int (iN ((zPi G zi) + (G (0) (zi)))), .int (iN ((zi) + (1))), .ref 8]) (kr1 := (78, 76)) (h1 := zg) (Eq.trans (b := (some (34, [(0, .ref 4), (1, .ref 1), (2, .int (iN (N))), (3, .int (iN (zi)))], [.int ((iN (zPi G zi)) + (iN (G (0) (zi)))), .int (iN ((zi) + (1))), .ref 8], (78, 76), zg) : Option am_C)) rfl (by simp only [Int32.ofInt_add, Int32.ofInt_sub, Int32.ofInt_mul, Int32.ofInt_neg])) ?_
      refine wp_call (md1 := am_m_Lp_lay) (As := [.ref 8, .int (iN ((zi) + (1))), .int (iN ((zPi G zi) + (G (0) (zi))))]) (rest := []) (kr1 := (78, 76)) rfl (jt_lay _ (by omega) (zn := 17) (zi := (zi) + (1)) (zv := iN ((zPi G zi) + (G (0) (zi)))) (by decide) (by decide) rfl rfl rfl (by decide) (by omega) (by omega)) ?_
      rintro _ _ ⟨rfl, rfl⟩
      refine wp_run (k := 2) (pc1 := 7) (l1 := [(0, .ref 4), (1, .ref 1), (2, .int (iN (N))), (3, .int (iN ((zi) + 1)))]) (st1 := []) (kr1 := (78, 76)) (h1 := am_wr zg 8 ((zi) + (1) : Int).toNat (iN ((zPi G zi) + (G (0) (zi))))) (Eq.trans (b := (some (7, [(0, .ref 4), (1, .ref 1), (2, .int (iN (N))), (3, .int ((iN (zi)) + iN (1)))], [], (78, 76), am_wr zg 8 ((zi) + (1) : Int).toNat (iN ((zPi G zi) + (G (0) (zi))))) : Option am_C)) rfl (by simp only [Int32.ofInt_add, Int32.ofInt_sub, Int32.ofInt_mul, Int32.ofInt_neg])) ?_
      refine z_ih _ (zi + 1) (am_fr_w q_f (by decide) _ _) (by omega) (fun k y1 y2 => ?_) (by omega)
      by_cases y3 : k = zi + 1
      · rw [y3, am_wr_at, zPi_s G zi (by omega)]
      · rw [am_wr_no (by omega)]; exact q_p k y1 (by omega)
set_option maxRecDepth 20000 in
set_option maxHeartbeats 4000000 in
theorem jl_rekC_4 (zd : Nat) (q_d : 3 ≤ zd) {zh : am_H} {N : Int} {G : Int → Int → Int} {S T : Int}  {zQ : Option Value → am_H → Prop} (zk : ∀ zg : am_H, am_fr [5, 6, 7, 8] zh zg → (∀ k : Int, 0 ≤ k → k ≤ N → zg.1 8 k.toNat = iN (zPi G k)) → (∀ k : Nat, k < 256 → zg.1 5 k = iN 1000000000) → am_wp zd am_m_Lots_reckon 68 [(0, .ref 4), (1, .ref 1), (2, .int (iN (N))), (3, .int (iN (256)))] [] (78, 76) zg (78, 76) zQ) : ∀ (z_n : Nat) (zg : am_H) (zi : Int) (q_f : am_fr [5, 6, 7, 8] zh zg) (q_ah1 : ∀ k : Int, 0 ≤ k → k ≤ N → zg.1 8 k.toNat = iN (zPi G k)) (q_i : 0 ≤ zi ∧ zi ≤ 256) (q_p : ∀ k : Nat, (k : Int) < zi → zg.1 5 k = iN 1000000000), 256 - zi < (z_n : Int) → am_wp zd am_m_Lots_reckon 45 [(0, .ref 4), (1, .ref 1), (2, .int (iN (N))), (3, .int (iN (zi)))] [] (78, 76) zg (78, 76) zQ := by
  obtain ⟨zd, rfl⟩ : ∃ y_e, zd = y_e + 3 := ⟨zd - 3, by omega⟩
  intro z_n
  induction z_n with
  | zero => intro zg zi q_f q_ah1 q_i q_p q_m; omega
  | succ z_n z_ih =>
    intro zg zi q_f q_ah1 q_i q_p q_m
    refine wp_run (k := 3) (pc1 := 50) (l1 := [(0, .ref 4), (1, .ref 1), (2, .int (iN (N))), (3, .int (iN (zi)))]) (st1 := [.ref 5, .int (iN (zi))]) (kr1 := (78, 76)) (h1 := zg) rfl ?_
    refine wp_alen (v := 256) rfl rfl ?_
    refine wp_ge (a := zi) (b := 256) rfl (by omega) (by omega) (fun b_51 => ?_) (fun b_51 => ?_)
    · have y_9 : zi = 256 := by omega
      rw [y_9] at q_p
      rw [y_9]
      exact zk zg q_f q_ah1 (fun k y1 => q_p k (by omega))
    · refine wp_run (k := 4) (pc1 := 61) (l1 := [(0, .ref 4), (1, .ref 1), (2, .int (iN (N))), (3, .int (iN (zi)))]) (st1 := [.int (iN (1000000000)), .int (iN (zi)), .ref 5]) (kr1 := (78, 76)) (h1 := zg) rfl ?_
      refine wp_iast (z := zi) (j := (zi).toNat) (n := 256) rfl (by decide) (by decide) rfl rfl (by omega) (by omega) (by decide) ?_
      refine wp_run (k := 2) (pc1 := 45) (l1 := [(0, .ref 4), (1, .ref 1), (2, .int (iN (N))), (3, .int (iN ((zi) + 1)))]) (st1 := []) (kr1 := (78, 76)) (h1 := am_wr zg 5 ((zi).toNat) (iN (1000000000))) (Eq.trans (b := (some (45, [(0, .ref 4), (1, .ref 1), (2, .int (iN (N))), (3, .int ((iN (zi)) + iN (1)))], [], (78, 76), am_wr zg 5 ((zi).toNat) (iN (1000000000))) : Option am_C)) rfl (by simp only [Int32.ofInt_add, Int32.ofInt_sub, Int32.ofInt_mul, Int32.ofInt_neg])) ?_
      refine z_ih _ (zi + 1) (am_fr_w q_f (by decide) _ _) (by rw [am_wr_ne (by decide)]; exact q_ah1) (by omega) (fun k y1 => ?_) (by omega)
      by_cases y3 : k = zi.toNat
      · rw [y3, am_wr_at]
      · rw [am_wr_no y3]; exact q_p k (by omega)
set_option maxRecDepth 20000 in
set_option maxHeartbeats 4000000 in
theorem jt_reckon_4 (zd : Nat) (q_d : 3 ≤ zd) {zh : am_H} {N : Int} {G : Int → Int → Int} {S T : Int} (q_nm : zNm (zh.1 1) (zh.1 2) N G S T) (q_g : zGk N G S T) (q_a0 : zh.1 8 0 = iN 0) : am_wp zd am_m_Lots_reckon 0 [(0, .ref 4), (1, .ref 1)] [] (78, 76) zh (78, 76) (fun rv h' => rv = none ∧ am_fr [5, 6, 7, 8] zh h' ∧ zLots 5 6 7 8 h' N G T) := by
  obtain ⟨zd, rfl⟩ : ∃ y_e, zd = y_e + 3 := ⟨zd - 3, by omega⟩
  have q_N := q_g.1
  refine wp_run (k := 1) (pc1 := 1) (l1 := [(0, .ref 4), (1, .ref 1)]) (st1 := [.ref 1]) (kr1 := (78, 76)) (h1 := zh) rfl ?_
  refine wp_call (md1 := am_m_Numbers_size) (As := [.ref 1]) (rest := []) (kr1 := (78, 76)) rfl (jt_size_1 _ (by omega) q_nm q_g) ?_
  rintro _ _ ⟨rfl, rfl⟩
  refine wp_run (k := 3) (pc1 := 7) (l1 := [(0, .ref 4), (1, .ref 1), (2, .int (iN (N))), (3, .int (iN (0)))]) (st1 := []) (kr1 := (78, 76)) (h1 := zh) rfl ?_
  refine jl_rekP_4 (S := S) (T := T) _ (by omega) q_nm q_g ?_ 17 zh 0 (am_fr_0 _ _) (by omega) (fun k y1 y2 => ?_) (by omega)
  rotate_left
  · rw [show k = 0 by omega]; exact q_a0
  intro zg q_f q_ah1
  refine wp_run (k := 2) (pc1 := 45) (l1 := [(0, .ref 4), (1, .ref 1), (2, .int (iN (N))), (3, .int (iN (0)))]) (st1 := []) (kr1 := (78, 76)) (h1 := zg) rfl ?_
  refine jl_rekC_4 (zh := zh) (G := G) (S := S) (T := T) _ (by omega) ?_ 257 zg 0 q_f q_ah1 (by omega) (fun k y1 => by omega) (by omega)
  intro zg1 q_f1 q_ah2 q_c1
  refine wp_run (k := 2) (pc1 := 70) (l1 := [(0, .ref 4), (1, .ref 1), (2, .int (iN (N))), (3, .int (iN (0)))]) (st1 := []) (kr1 := (78, 76)) (h1 := zg1) rfl ?_
  exact jl_rekA_4 (S := S) _ (by omega) q_nm q_g (fun zg y1 y2 y3 => ⟨rfl, y1, y2, y3⟩) 17 zg1 0 q_f1 q_ah2 (by omega) (fun a b y1 y2 y3 => by unfold zKa; rw [if_neg (by omega)]; exact ⟨q_c1 _ (by omega), fun y => absurd y (by show ¬ (1000000000 : Int) < 1000000000; decide)⟩) (by omega)
set_option maxRecDepth 20000 in
set_option maxHeartbeats 4000000 in
theorem jl_rekM_37 (zd : Nat) (q_d : 3 ≤ zd) {zh : am_H} {N : Int} {G : Int → Int → Int} {S T : Int} {za : Int} (q_nm : zNm (zh.1 34) (zh.1 35) N G S T) (q_g : zGk N G S T) (q_0 : 0 ≤ za ∧ za < N) {zQ : Option Value → am_H → Prop} (zk : ∀ zg : am_H, am_fr [38, 39, 40, 41] zh zg → (∀ k : Int, 0 ≤ k → k ≤ N → zg.1 41 k.toNat = iN (zPi G k)) → (∀ a b : Int, 0 ≤ a → a ≤ b → b < N → zEn 38 39 40 zg G T a b (zKa (za + 1) a b)) → am_wp zd am_m_Lots_reckon 142 [(0, .ref 37), (1, .ref 34), (2, .int (iN (N))), (3, .int (iN (za)))] [] (78, 76) zg (78, 76) zQ) : ∀ (z_n : Nat) (zg : am_H) (zm : Int) (zo : Int) (q_f : am_fr [38, 39, 40, 41] zh zg) (q_ah1 : ∀ k : Int, 0 ≤ k → k ≤ N → zg.1 41 k.toNat = iN (zPi G k)) (q_m : za ≤ zm ∧ zm ≤ N) (q_o : zo = zOw G za zm) (q_e : ∀ a b : Int, 0 ≤ a → a ≤ b → b < N → zEn 38 39 40 zg G T a b (zKm za zm a b)), N - zm < (z_n : Int) → am_wp zd am_m_Lots_reckon 81 [(0, .ref 37), (1, .ref 34), (2, .int (iN (N))), (3, .int (iN (za))), (4, .int (iN (zo))), (5, .int (iN (zm)))] [] (78, 76) zg (78, 76) zQ := by
  obtain ⟨zd, rfl⟩ : ∃ y_e, zd = y_e + 3 := ⟨zd - 3, by omega⟩
  intro z_n
  induction z_n with
  | zero => intro zg zm zo q_f q_ah1 q_m q_o q_e q_m; omega
  | succ z_n z_ih =>
    intro zg zm zo q_f q_ah1 q_m q_o q_e q_m
    have q_N := q_g.1
    have q_T := q_g.2.2.2
    have q_nm1 := zNm_f q_f q_nm (by decide) (by decide)
    refine wp_run (k := 2) (pc1 := 84) (l1 := [(0, .ref 37), (1, .ref 34), (2, .int (iN (N))), (3, .int (iN (za))), (4, .int (iN (zo))), (5, .int (iN (zm)))]) (st1 := [.int (iN (N)), .int (iN (zm))]) (kr1 := (78, 76)) (h1 := zg) rfl ?_
    refine wp_ge (a := zm) (b := N) rfl (by omega) (by omega) (fun b_84 => ?_) (fun b_84 => ?_)
    · refine wp_drop [4, 5] (l := [(0, .ref 37), (1, .ref 34), (2, .int (iN (N))), (3, .int (iN (za)))]) rfl rfl ?_
      exact zk zg q_f q_ah1 (fun a b y1 y2 y3 => by rw [← zKm_e (zm := zm) y2 (by omega)]; exact q_e a b y1 y2 y3)
    · refine wp_run (k := 1) (pc1 := 88) (l1 := [(0, .ref 37), (1, .ref 34), (2, .int (iN (N))), (3, .int (iN (za))), (4, .int (iN (zo))), (5, .int (iN (zm)))]) (st1 := [.ref 34]) (kr1 := (78, 76)) (h1 := zg) rfl ?_
      refine wp_call (md1 := am_m_Numbers_lateMayBe) (As := [.ref 34]) (rest := []) (kr1 := (78, 76)) rfl (jt_lateMayBe_34 _ (by omega) q_nm1 q_g) ?_
      rintro _ _ ⟨rfl, rfl⟩
      refine wp_ne0 (a := T) rfl (by omega) (fun b_91 => ?_) (fun b_91 => ?_)
      · refine wp_run (k := 5) (pc1 := 113) (l1 := [(0, .ref 37), (1, .ref 34), (2, .int (iN (N))), (3, .int (iN (za))), (4, .int (iN (zo))), (5, .int (iN (zm)))]) (st1 := [.int (iN (zo)), .int (iN (zm)), .int (iN (za)), .ref 34, .ref 37]) (kr1 := (78, 76)) (h1 := zg) rfl ?_
        refine wp_call (md1 := am_m_Lots_reckonMadeIn) (As := [.ref 37, .ref 34, .int (iN (za)), .int (iN (zm)), .int (iN (zo))]) (rest := []) (kr1 := (78, 76)) rfl (jt_madeIn_37 (S := S) (K := zKm za zm) _ (by omega) q_nm1 q_g q_ah1 (fun b y1 y2 => by unfold zKm; rw [if_neg (by omega), if_pos rfl]; omega) (by omega) (by omega) q_o q_e) ?_
        rintro _ zg1 ⟨rfl, q_f1, q_e1⟩
        have q_f2 : am_fr [38, 39, 40, 41] zh zg1 := am_fr_t q_f (am_fr_m q_f1 (fun c y => by simp only [List.mem_cons, List.not_mem_nil, or_false] at y ⊢; omega))
        have q_nm2 := zNm_f q_f2 q_nm (by decide) (by decide)
        have q_ah2 : ∀ k : Int, 0 ≤ k → k ≤ N → zg1.1 41 k.toNat = iN (zPi G k) := by rw [q_f1.2 41 (by decide)]; exact q_ah1
        refine wp_run (k := 4) (pc1 := 122) (l1 := [(0, .ref 37), (1, .ref 34), (2, .int (iN (N))), (3, .int (iN (za))), (4, .int (iN (zo))), (5, .int (iN (zm)))]) (st1 := [.int (iN (4)), .int (iN (zm)), .ref 34, .int (iN (zo))]) (kr1 := (78, 76)) (h1 := zg1) rfl ?_
        refine wp_call (md1 := am_m_Numbers_value) (As := [.ref 34, .int (iN (zm)), .int (iN (4))]) (rest := [.int (iN (zo))]) (kr1 := (78, 76)) rfl (jt_value_34 _ (by omega) q_nm2 q_g (zp := zm) (zw := 4) (by omega) (by omega)) ?_
        rintro _ _ ⟨rfl, rfl⟩
        refine wp_run (k := 3) (pc1 := 129) (l1 := [(0, .ref 37), (1, .ref 34), (2, .int (iN (N))), (3, .int (iN (za))), (4, .int (iN (zo))), (5, .int (iN (zm)))]) (st1 := [.int (iN (zm)), .int (iN (za)), .ref 37, .int (iN (G (4) (zm))), .int (iN (zo))]) (kr1 := (78, 76)) (h1 := zg1) rfl ?_
        refine wp_call (md1 := am_m_Lots_pieces) (As := [.ref 37, .int (iN (za)), .int (iN (zm))]) (rest := [.int (iN (G (4) (zm))), .int (iN (zo))]) (kr1 := (78, 76)) rfl (jt_lpieces_37 _ (by omega) q_ah2 q_N.2 (za := za) (zb := zm) (by omega)) ?_
        rintro _ _ ⟨rfl, rfl⟩
        refine wp_run (k := 5) (pc1 := 81) (l1 := [(0, .ref 37), (1, .ref 34), (2, .int (iN (N))), (3, .int (iN (za))), (4, .int (iN ((zo) + ((G (4) (zm)) * (zD G (za) (zm)))))), (5, .int (iN ((zm) + 1)))]) (st1 := []) (kr1 := (78, 76)) (h1 := zg1) (Eq.trans (b := (some (81, [(0, .ref 37), (1, .ref 34), (2, .int (iN (N))), (3, .int (iN (za))), (4, .int ((iN (zo)) + ((iN (G (4) (zm))) * (iN (zD G (za) (zm)))))), (5, .int ((iN (zm)) + iN (1)))], [], (78, 76), zg1) : Option am_C)) rfl (by simp only [Int32.ofInt_add, Int32.ofInt_sub, Int32.ofInt_mul, Int32.ofInt_neg])) ?_
        exact z_ih zg1 (zm + 1) ((zo) + ((G (4) (zm)) * (zD G (za) (zm)))) q_f2 q_ah2 (by omega) (by rw [zOw_s G za zm (by omega), q_o]) (fun a b y1 y2 y3 => by rw [← zKm_s (by omega) y2]; exact q_e1 a b y1 y2 y3) (by omega)
      · have y_d := zD_rg q_g (a := za) (b := zm - 1) (by omega) (by omega) (by omega)
        refine wp_run (k := 5) (pc1 := 100) (l1 := [(0, .ref 37), (1, .ref 34), (2, .int (iN (N))), (3, .int (iN (za))), (4, .int (iN (zo))), (5, .int (iN (zm)))]) (st1 := [.int (iN ((zm) - (1))), .int (iN (za)), .ref 37]) (kr1 := (78, 76)) (h1 := zg) (Eq.trans (b := (some (100, [(0, .ref 37), (1, .ref 34), (2, .int (iN (N))), (3, .int (iN (za))), (4, .int (iN (zo))), (5, .int (iN (zm)))], [.int ((iN (zm)) - (iN (1))), .int (iN (za)), .ref 37], (78, 76), zg) : Option am_C)) rfl (by simp only [Int32.ofInt_add, Int32.ofInt_sub, Int32.ofInt_mul, Int32.ofInt_neg])) ?_
        refine wp_call (md1 := am_m_Lots_pieces) (As := [.ref 37, .int (iN (za)), .int (iN ((zm) - (1)))]) (rest := []) (kr1 := (78, 76)) rfl (jt_lpieces_37 _ (by omega) q_ah1 q_N.2 (za := za) (zb := (zm) - (1)) (by omega)) ?_
        rintro _ _ ⟨rfl, rfl⟩
        refine wp_ne0 (a := zD G (za) ((zm) - (1))) rfl (by omega) (fun b_103 => ?_) (fun b_103 => ?_)
        · refine wp_drop [4, 5] (l := [(0, .ref 37), (1, .ref 34), (2, .int (iN (N))), (3, .int (iN (za)))]) rfl rfl ?_
          refine zk zg q_f q_ah1 (fun a b y1 y2 y3 => ?_)
          by_cases y4 : a = za
          · rw [y4] at y2 ⊢; exact zEn_end q_g (by omega) (by omega) ⟨y2, y3⟩ b_103 (q_e za b (by omega) y2 y3)
          · rw [← zKm_e (zm := zm) y2 (fun y => absurd y y4)]; exact q_e a b y1 y2 y3
        · refine wp_run (k := 5) (pc1 := 113) (l1 := [(0, .ref 37), (1, .ref 34), (2, .int (iN (N))), (3, .int (iN (za))), (4, .int (iN (zo))), (5, .int (iN (zm)))]) (st1 := [.int (iN (zo)), .int (iN (zm)), .int (iN (za)), .ref 34, .ref 37]) (kr1 := (78, 76)) (h1 := zg) rfl ?_
          refine wp_call (md1 := am_m_Lots_reckonMadeIn) (As := [.ref 37, .ref 34, .int (iN (za)), .int (iN (zm)), .int (iN (zo))]) (rest := []) (kr1 := (78, 76)) rfl (jt_madeIn_37 (S := S) (K := zKm za zm) _ (by omega) q_nm1 q_g q_ah1 (fun b y1 y2 => by unfold zKm; rw [if_neg (by omega), if_pos rfl]; omega) (by omega) (by omega) q_o q_e) ?_
          rintro _ zg1 ⟨rfl, q_f1, q_e1⟩
          have q_f2 : am_fr [38, 39, 40, 41] zh zg1 := am_fr_t q_f (am_fr_m q_f1 (fun c y => by simp only [List.mem_cons, List.not_mem_nil, or_false] at y ⊢; omega))
          have q_nm2 := zNm_f q_f2 q_nm (by decide) (by decide)
          have q_ah2 : ∀ k : Int, 0 ≤ k → k ≤ N → zg1.1 41 k.toNat = iN (zPi G k) := by rw [q_f1.2 41 (by decide)]; exact q_ah1
          refine wp_run (k := 4) (pc1 := 122) (l1 := [(0, .ref 37), (1, .ref 34), (2, .int (iN (N))), (3, .int (iN (za))), (4, .int (iN (zo))), (5, .int (iN (zm)))]) (st1 := [.int (iN (4)), .int (iN (zm)), .ref 34, .int (iN (zo))]) (kr1 := (78, 76)) (h1 := zg1) rfl ?_
          refine wp_call (md1 := am_m_Numbers_value) (As := [.ref 34, .int (iN (zm)), .int (iN (4))]) (rest := [.int (iN (zo))]) (kr1 := (78, 76)) rfl (jt_value_34 _ (by omega) q_nm2 q_g (zp := zm) (zw := 4) (by omega) (by omega)) ?_
          rintro _ _ ⟨rfl, rfl⟩
          refine wp_run (k := 3) (pc1 := 129) (l1 := [(0, .ref 37), (1, .ref 34), (2, .int (iN (N))), (3, .int (iN (za))), (4, .int (iN (zo))), (5, .int (iN (zm)))]) (st1 := [.int (iN (zm)), .int (iN (za)), .ref 37, .int (iN (G (4) (zm))), .int (iN (zo))]) (kr1 := (78, 76)) (h1 := zg1) rfl ?_
          refine wp_call (md1 := am_m_Lots_pieces) (As := [.ref 37, .int (iN (za)), .int (iN (zm))]) (rest := [.int (iN (G (4) (zm))), .int (iN (zo))]) (kr1 := (78, 76)) rfl (jt_lpieces_37 _ (by omega) q_ah2 q_N.2 (za := za) (zb := zm) (by omega)) ?_
          rintro _ _ ⟨rfl, rfl⟩
          refine wp_run (k := 5) (pc1 := 81) (l1 := [(0, .ref 37), (1, .ref 34), (2, .int (iN (N))), (3, .int (iN (za))), (4, .int (iN ((zo) + ((G (4) (zm)) * (zD G (za) (zm)))))), (5, .int (iN ((zm) + 1)))]) (st1 := []) (kr1 := (78, 76)) (h1 := zg1) (Eq.trans (b := (some (81, [(0, .ref 37), (1, .ref 34), (2, .int (iN (N))), (3, .int (iN (za))), (4, .int ((iN (zo)) + ((iN (G (4) (zm))) * (iN (zD G (za) (zm)))))), (5, .int ((iN (zm)) + iN (1)))], [], (78, 76), zg1) : Option am_C)) rfl (by simp only [Int32.ofInt_add, Int32.ofInt_sub, Int32.ofInt_mul, Int32.ofInt_neg])) ?_
          exact z_ih zg1 (zm + 1) ((zo) + ((G (4) (zm)) * (zD G (za) (zm)))) q_f2 q_ah2 (by omega) (by rw [zOw_s G za zm (by omega), q_o]) (fun a b y1 y2 y3 => by rw [← zKm_s (by omega) y2]; exact q_e1 a b y1 y2 y3) (by omega)
set_option maxRecDepth 20000 in
set_option maxHeartbeats 4000000 in
theorem jl_rekA_37 (zd : Nat) (q_d : 3 ≤ zd) {zh : am_H} {N : Int} {G : Int → Int → Int} {S T : Int} (q_nm : zNm (zh.1 34) (zh.1 35) N G S T) (q_g : zGk N G S T) {zQ : Option Value → am_H → Prop} (zk : ∀ zg : am_H, am_fr [38, 39, 40, 41] zh zg → (∀ k : Int, 0 ≤ k → k ≤ N → zg.1 41 k.toNat = iN (zPi G k)) → (∀ a b : Int, 0 ≤ a → a ≤ b → b < N → zEn 38 39 40 zg G T a b ((b + 1 - a).toNat)) → zQ none zg) : ∀ (z_n : Nat) (zg : am_H) (za : Int) (q_f : am_fr [38, 39, 40, 41] zh zg) (q_ah1 : ∀ k : Int, 0 ≤ k → k ≤ N → zg.1 41 k.toNat = iN (zPi G k)) (q_a : 0 ≤ za ∧ za ≤ N) (q_e : ∀ a b : Int, 0 ≤ a → a ≤ b → b < N → zEn 38 39 40 zg G T a b (zKa za a b)), N - za < (z_n : Int) → am_wp zd am_m_Lots_reckon 70 [(0, .ref 37), (1, .ref 34), (2, .int (iN (N))), (3, .int (iN (za)))] [] (78, 76) zg (78, 76) zQ := by
  obtain ⟨zd, rfl⟩ : ∃ y_e, zd = y_e + 3 := ⟨zd - 3, by omega⟩
  intro z_n
  induction z_n with
  | zero => intro zg za q_f q_ah1 q_a q_e q_m; omega
  | succ z_n z_ih =>
    intro zg za q_f q_ah1 q_a q_e q_m
    have q_N := q_g.1
    refine wp_run (k := 2) (pc1 := 72) (l1 := [(0, .ref 37), (1, .ref 34), (2, .int (iN (N))), (3, .int (iN (za)))]) (st1 := [.int (iN (N)), .int (iN (za))]) (kr1 := (78, 76)) (h1 := zg) rfl ?_
    refine wp_ge (a := za) (b := N) rfl (by omega) (by omega) (fun b_72 => ?_) (fun b_72 => ?_)
    · refine wp_ret (rv := none) rfl ?_
      exact zk zg q_f q_ah1 (fun a b y1 y2 y3 => by have y4 := q_e a b y1 y2 y3; unfold zKa at y4; rwa [if_pos (by omega)] at y4)
    · refine wp_run (k := 4) (pc1 := 81) (l1 := [(0, .ref 37), (1, .ref 34), (2, .int (iN (N))), (3, .int (iN (za))), (4, .int (iN (0))), (5, .int (iN (za)))]) (st1 := []) (kr1 := (78, 76)) (h1 := zg) rfl ?_
      refine jl_rekM_37 (S := S) _ (by omega) q_nm q_g (by omega) ?_ 17 zg za 0 q_f q_ah1 (by omega) (zOw_0 G za).symm (fun a b y1 y2 y3 => by rw [← zKm_0 y2]; exact q_e a b y1 y2 y3) (by omega)
      intro zg2 q_f2 q_ah2 q_e2
      refine wp_run (k := 2) (pc1 := 70) (l1 := [(0, .ref 37), (1, .ref 34), (2, .int (iN (N))), (3, .int (iN ((za) + 1)))]) (st1 := []) (kr1 := (78, 76)) (h1 := zg2) (Eq.trans (b := (some (70, [(0, .ref 37), (1, .ref 34), (2, .int (iN (N))), (3, .int ((iN (za)) + iN (1)))], [], (78, 76), zg2) : Option am_C)) rfl (by simp only [Int32.ofInt_add, Int32.ofInt_sub, Int32.ofInt_mul, Int32.ofInt_neg])) ?_
      exact z_ih zg2 (za + 1) q_f2 q_ah2 (by omega) q_e2 (by omega)
set_option maxRecDepth 20000 in
set_option maxHeartbeats 4000000 in
theorem jl_rekP_37 (zd : Nat) (q_d : 3 ≤ zd) {zh : am_H} {N : Int} {G : Int → Int → Int} {S T : Int} (q_nm : zNm (zh.1 34) (zh.1 35) N G S T) (q_g : zGk N G S T) {zQ : Option Value → am_H → Prop} (zk : ∀ zg : am_H, am_fr [38, 39, 40, 41] zh zg → (∀ k : Int, 0 ≤ k → k ≤ N → zg.1 41 k.toNat = iN (zPi G k)) → am_wp zd am_m_Lots_reckon 43 [(0, .ref 37), (1, .ref 34), (2, .int (iN (N))), (3, .int (iN (N)))] [] (78, 76) zg (78, 76) zQ) : ∀ (z_n : Nat) (zg : am_H) (zi : Int) (q_f : am_fr [38, 39, 40, 41] zh zg) (q_i : 0 ≤ zi ∧ zi ≤ N) (q_p : ∀ k : Int, 0 ≤ k → k ≤ zi → zg.1 41 k.toNat = iN (zPi G k)), N - zi < (z_n : Int) → am_wp zd am_m_Lots_reckon 7 [(0, .ref 37), (1, .ref 34), (2, .int (iN (N))), (3, .int (iN (zi)))] [] (78, 76) zg (78, 76) zQ := by
  obtain ⟨zd, rfl⟩ : ∃ y_e, zd = y_e + 3 := ⟨zd - 3, by omega⟩
  intro z_n
  induction z_n with
  | zero => intro zg zi q_f q_i q_p q_m; omega
  | succ z_n z_ih =>
    intro zg zi q_f q_i q_p q_m
    have q_N := q_g.1
    refine wp_run (k := 2) (pc1 := 9) (l1 := [(0, .ref 37), (1, .ref 34), (2, .int (iN (N))), (3, .int (iN (zi)))]) (st1 := [.int (iN (N)), .int (iN (zi))]) (kr1 := (78, 76)) (h1 := zg) rfl ?_
    refine wp_ge (a := zi) (b := N) rfl (by omega) (by omega) (fun b_9 => ?_) (fun b_9 => ?_)
    · have y_9 : zi = N := by omega
      rw [y_9] at q_p
      rw [y_9]
      exact zk zg q_f q_p
    · refine wp_run (k := 8) (pc1 := 24) (l1 := [(0, .ref 37), (1, .ref 34), (2, .int (iN (N))), (3, .int (iN (zi)))]) (st1 := [.int (iN (zi)), .ref 41, .int (iN ((zi) + (1))), .ref 41]) (kr1 := (78, 76)) (h1 := zg) (Eq.trans (b := (some (24, [(0, .ref 37), (1, .ref 34), (2, .int (iN (N))), (3, .int (iN (zi)))], [.int (iN (zi)), .ref 41, .int ((iN (zi)) + (iN (1))), .ref 41], (78, 76), zg) : Option am_C)) rfl (by simp only [Int32.ofInt_add, Int32.ofInt_sub, Int32.ofInt_mul, Int32.ofInt_neg])) ?_
      refine wp_call (md1 := am_m_Lp_at) (As := [.ref 41, .int (iN (zi))]) (rest := [.int (iN ((zi) + (1))), .ref 41]) (kr1 := (78, 76)) rfl (jt_at _ (by omega) (zn := 17) (zi := zi) (zv := iN (zPi G zi)) rfl rfl (by decide) (by omega) (by omega) (q_p zi (by omega) (by omega))) ?_
      rintro _ _ ⟨rfl, rfl⟩
      refine wp_run (k := 3) (pc1 := 30) (l1 := [(0, .ref 37), (1, .ref 34), (2, .int (iN (N))), (3, .int (iN (zi)))]) (st1 := [.int (iN (0)), .int (iN (zi)), .ref 34, .int (iN (zPi G zi)), .int (iN ((zi) + (1))), .ref 41]) (kr1 := (78, 76)) (h1 := zg) rfl ?_
      refine wp_call (md1 := am_m_Numbers_value) (As := [.ref 34, .int (iN (zi)), .int (iN (0))]) (rest := [.int (iN (zPi G zi)), .int (iN ((zi) + (1))), .ref 41]) (kr1 := (78, 76)) rfl (jt_value_34 _ (by omega) (zNm_f q_f q_nm (by decide) (by decide)) q_g (zp := zi) (zw := 0) (by omega) (by omega)) ?_
      rintro _ _ ⟨rfl, rfl⟩
      refine wp_run (k := 1) (pc1 := 34) (l1 := [(0, .ref 37), (1, .ref 34), (2, .int (iN (N))), (3, .int (iN (zi)))]) (st1 := [.int (iN ((zPi G zi) + (G (0) (zi)))), .int (iN ((zi) + (1))), .ref 41]) (kr1 := (78, 76)) (h1 := zg) (Eq.trans (b := (some (34, [(0, .ref 37), (1, .ref 34), (2, .int (iN (N))), (3, .int (iN (zi)))], [.int ((iN (zPi G zi)) + (iN (G (0) (zi)))), .int (iN ((zi) + (1))), .ref 41], (78, 76), zg) : Option am_C)) rfl (by simp only [Int32.ofInt_add, Int32.ofInt_sub, Int32.ofInt_mul, Int32.ofInt_neg])) ?_
      refine wp_call (md1 := am_m_Lp_lay) (As := [.ref 41, .int (iN ((zi) + (1))), .int (iN ((zPi G zi) + (G (0) (zi))))]) (rest := []) (kr1 := (78, 76)) rfl (jt_lay _ (by omega) (zn := 17) (zi := (zi) + (1)) (zv := iN ((zPi G zi) + (G (0) (zi)))) (by decide) (by decide) rfl rfl rfl (by decide) (by omega) (by omega)) ?_
      rintro _ _ ⟨rfl, rfl⟩
      refine wp_run (k := 2) (pc1 := 7) (l1 := [(0, .ref 37), (1, .ref 34), (2, .int (iN (N))), (3, .int (iN ((zi) + 1)))]) (st1 := []) (kr1 := (78, 76)) (h1 := am_wr zg 41 ((zi) + (1) : Int).toNat (iN ((zPi G zi) + (G (0) (zi))))) (Eq.trans (b := (some (7, [(0, .ref 37), (1, .ref 34), (2, .int (iN (N))), (3, .int ((iN (zi)) + iN (1)))], [], (78, 76), am_wr zg 41 ((zi) + (1) : Int).toNat (iN ((zPi G zi) + (G (0) (zi))))) : Option am_C)) rfl (by simp only [Int32.ofInt_add, Int32.ofInt_sub, Int32.ofInt_mul, Int32.ofInt_neg])) ?_
      refine z_ih _ (zi + 1) (am_fr_w q_f (by decide) _ _) (by omega) (fun k y1 y2 => ?_) (by omega)
      by_cases y3 : k = zi + 1
      · rw [y3, am_wr_at, zPi_s G zi (by omega)]
      · rw [am_wr_no (by omega)]; exact q_p k y1 (by omega)
set_option maxRecDepth 20000 in
set_option maxHeartbeats 4000000 in
theorem jl_rekC_37 (zd : Nat) (q_d : 3 ≤ zd) {zh : am_H} {N : Int} {G : Int → Int → Int} {S T : Int}  {zQ : Option Value → am_H → Prop} (zk : ∀ zg : am_H, am_fr [38, 39, 40, 41] zh zg → (∀ k : Int, 0 ≤ k → k ≤ N → zg.1 41 k.toNat = iN (zPi G k)) → (∀ k : Nat, k < 256 → zg.1 38 k = iN 1000000000) → am_wp zd am_m_Lots_reckon 68 [(0, .ref 37), (1, .ref 34), (2, .int (iN (N))), (3, .int (iN (256)))] [] (78, 76) zg (78, 76) zQ) : ∀ (z_n : Nat) (zg : am_H) (zi : Int) (q_f : am_fr [38, 39, 40, 41] zh zg) (q_ah1 : ∀ k : Int, 0 ≤ k → k ≤ N → zg.1 41 k.toNat = iN (zPi G k)) (q_i : 0 ≤ zi ∧ zi ≤ 256) (q_p : ∀ k : Nat, (k : Int) < zi → zg.1 38 k = iN 1000000000), 256 - zi < (z_n : Int) → am_wp zd am_m_Lots_reckon 45 [(0, .ref 37), (1, .ref 34), (2, .int (iN (N))), (3, .int (iN (zi)))] [] (78, 76) zg (78, 76) zQ := by
  obtain ⟨zd, rfl⟩ : ∃ y_e, zd = y_e + 3 := ⟨zd - 3, by omega⟩
  intro z_n
  induction z_n with
  | zero => intro zg zi q_f q_ah1 q_i q_p q_m; omega
  | succ z_n z_ih =>
    intro zg zi q_f q_ah1 q_i q_p q_m
    refine wp_run (k := 3) (pc1 := 50) (l1 := [(0, .ref 37), (1, .ref 34), (2, .int (iN (N))), (3, .int (iN (zi)))]) (st1 := [.ref 38, .int (iN (zi))]) (kr1 := (78, 76)) (h1 := zg) rfl ?_
    refine wp_alen (v := 256) rfl rfl ?_
    refine wp_ge (a := zi) (b := 256) rfl (by omega) (by omega) (fun b_51 => ?_) (fun b_51 => ?_)
    · have y_9 : zi = 256 := by omega
      rw [y_9] at q_p
      rw [y_9]
      exact zk zg q_f q_ah1 (fun k y1 => q_p k (by omega))
    · refine wp_run (k := 4) (pc1 := 61) (l1 := [(0, .ref 37), (1, .ref 34), (2, .int (iN (N))), (3, .int (iN (zi)))]) (st1 := [.int (iN (1000000000)), .int (iN (zi)), .ref 38]) (kr1 := (78, 76)) (h1 := zg) rfl ?_
      refine wp_iast (z := zi) (j := (zi).toNat) (n := 256) rfl (by decide) (by decide) rfl rfl (by omega) (by omega) (by decide) ?_
      refine wp_run (k := 2) (pc1 := 45) (l1 := [(0, .ref 37), (1, .ref 34), (2, .int (iN (N))), (3, .int (iN ((zi) + 1)))]) (st1 := []) (kr1 := (78, 76)) (h1 := am_wr zg 38 ((zi).toNat) (iN (1000000000))) (Eq.trans (b := (some (45, [(0, .ref 37), (1, .ref 34), (2, .int (iN (N))), (3, .int ((iN (zi)) + iN (1)))], [], (78, 76), am_wr zg 38 ((zi).toNat) (iN (1000000000))) : Option am_C)) rfl (by simp only [Int32.ofInt_add, Int32.ofInt_sub, Int32.ofInt_mul, Int32.ofInt_neg])) ?_
      refine z_ih _ (zi + 1) (am_fr_w q_f (by decide) _ _) (by rw [am_wr_ne (by decide)]; exact q_ah1) (by omega) (fun k y1 => ?_) (by omega)
      by_cases y3 : k = zi.toNat
      · rw [y3, am_wr_at]
      · rw [am_wr_no y3]; exact q_p k (by omega)
set_option maxRecDepth 20000 in
set_option maxHeartbeats 4000000 in
theorem jt_reckon_37 (zd : Nat) (q_d : 3 ≤ zd) {zh : am_H} {N : Int} {G : Int → Int → Int} {S T : Int} (q_nm : zNm (zh.1 34) (zh.1 35) N G S T) (q_g : zGk N G S T) (q_a0 : zh.1 41 0 = iN 0) : am_wp zd am_m_Lots_reckon 0 [(0, .ref 37), (1, .ref 34)] [] (78, 76) zh (78, 76) (fun rv h' => rv = none ∧ am_fr [38, 39, 40, 41] zh h' ∧ zLots 38 39 40 41 h' N G T) := by
  obtain ⟨zd, rfl⟩ : ∃ y_e, zd = y_e + 3 := ⟨zd - 3, by omega⟩
  have q_N := q_g.1
  refine wp_run (k := 1) (pc1 := 1) (l1 := [(0, .ref 37), (1, .ref 34)]) (st1 := [.ref 34]) (kr1 := (78, 76)) (h1 := zh) rfl ?_
  refine wp_call (md1 := am_m_Numbers_size) (As := [.ref 34]) (rest := []) (kr1 := (78, 76)) rfl (jt_size_34 _ (by omega) q_nm q_g) ?_
  rintro _ _ ⟨rfl, rfl⟩
  refine wp_run (k := 3) (pc1 := 7) (l1 := [(0, .ref 37), (1, .ref 34), (2, .int (iN (N))), (3, .int (iN (0)))]) (st1 := []) (kr1 := (78, 76)) (h1 := zh) rfl ?_
  refine jl_rekP_37 (S := S) (T := T) _ (by omega) q_nm q_g ?_ 17 zh 0 (am_fr_0 _ _) (by omega) (fun k y1 y2 => ?_) (by omega)
  rotate_left
  · rw [show k = 0 by omega]; exact q_a0
  intro zg q_f q_ah1
  refine wp_run (k := 2) (pc1 := 45) (l1 := [(0, .ref 37), (1, .ref 34), (2, .int (iN (N))), (3, .int (iN (0)))]) (st1 := []) (kr1 := (78, 76)) (h1 := zg) rfl ?_
  refine jl_rekC_37 (zh := zh) (G := G) (S := S) (T := T) _ (by omega) ?_ 257 zg 0 q_f q_ah1 (by omega) (fun k y1 => by omega) (by omega)
  intro zg1 q_f1 q_ah2 q_c1
  refine wp_run (k := 2) (pc1 := 70) (l1 := [(0, .ref 37), (1, .ref 34), (2, .int (iN (N))), (3, .int (iN (0)))]) (st1 := []) (kr1 := (78, 76)) (h1 := zg1) rfl ?_
  exact jl_rekA_37 (S := S) _ (by omega) q_nm q_g (fun zg y1 y2 y3 => ⟨rfl, y1, y2, y3⟩) 17 zg1 0 q_f1 q_ah2 (by omega) (fun a b y1 y2 y3 => by unfold zKa; rw [if_neg (by omega)]; exact ⟨q_c1 _ (by omega), fun y => absurd y (by show ¬ (1000000000 : Int) < 1000000000; decide)⟩) (by omega)
