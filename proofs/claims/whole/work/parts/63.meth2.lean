/-! THE CLASS's methods: bounded, rules, by hand -/
noncomputable def zWv (N : Int) (P : Int → Prop) : Int := @dite _ (∃ v : Int, zFst N P v) (Classical.propDecidable _) (fun q => Classical.choose q) (fun _ => 0)
theorem zWv_e {N : Int} {P : Int → Prop} {v : Int} (q : zFst N P v) : v = zWv N P := by
  have y : zWv N P = Classical.choose ⟨v, q⟩ := dif_pos ⟨v, q⟩
  rw [y]
  exact zFst_u q (Classical.choose_spec (⟨v, q⟩ : ∃ v : Int, zFst N P v))
def zVbd (N : Int) (G : Int → Int → Int) (S T p : Int) : Int := if p < -1 ∨ N ≤ p then -1 else if zBst N G S T = 0 then (if p = -1 then zVb N G S T (zD G 0 (N - 1)) 0 0 else zBm N G S T (zD G 0 (N - 1)) p) else zBst N G S T
def zVru (N : Int) (G : Int → Int → Int) (r n w : Int) : Int32 := if r < 0 ∨ 3 < r ∨ w < 0 ∨ 2 < w ∨ (r = 1 ∧ (n < 1 ∨ 16 < n)) then iN (-1) else if w = 0 then iN (zRu N G r n).1 else if w = 1 then iN (zRu N G r n).2.1 else (zRu N G r n).2.2
noncomputable def zVju (N : Int) (G : Int → Int → Int) (S T : Int) (B : Int → Int) (w : Int) : Int := if w < 0 ∨ 2 < w then -10000 else if w = 0 then zHi G B N else if w = 1 then zWv N (zWr N G S T B) else zSt G B (N - 1)
theorem zEf_n {G : Int → Int → Int} {r n n' a : Int} (q : ¬ r = 1) : ∀ (k : Nat) (b : Int), zEf G r n a k b = zEf G r n' a k b := by
  intro k
  induction k with
  | zero => intro b; rfl
  | succ k z_ih =>
    intro b
    have y : zTk G r n a b ↔ zTk G r n' a b := by unfold zTk; omega
    show (if zTk G r n a b then zEf G r n a k (b + 1) else b) = (if zTk G r n' a b then zEf G r n' a k (b + 1) else b)
    by_cases y1 : zTk G r n a b
    · rw [if_pos y1, if_pos (y.mp y1)]; exact z_ih (b + 1)
    · rw [if_neg y1, if_neg (fun z => y1 (y.mpr z))]
theorem zRr_n {N : Int} {G : Int → Int → Int} {r n n' : Int} (q : ¬ r = 1) : ∀ (k : Nat) (a c l : Int) (be : Int32), zRr N G r n k a c l be = zRr N G r n' k a c l be := by
  have y : ∀ a b : Int, zEd N G r n a b = zEd N G r n' a b := fun a b => zEf_n q _ b
  intro k
  induction k with
  | zero => intro a c l be; rfl
  | succ k z_ih =>
    intro a c l be
    show (if a < N then zRr N G r n k (zNx N G (zEd N G r n a a + 1)) (c + zCo G a (zEd N G r n a a) a) (l + 1) _ else _) = (if a < N then zRr N G r n' k (zNx N G (zEd N G r n' a a + 1)) (c + zCo G a (zEd N G r n' a a) a) (l + 1) _ else _)
    rw [y a a, z_ih]
theorem zRu_n {N : Int} {G : Int → Int → Int} {r : Int} (n n' : Int) (q : ¬ r = 1) : zRu N G r n = zRu N G r n' := zRr_n q _ _ _ _ _
def zTr (i : Nat) : Int := if i = 0 then 0 else if i ≤ 16 then 1 else if i = 17 then 2 else 3
/-- the best rule of the first k: its cost, its number -/
def zTm (N : Int) (G : Int → Int → Int) : Nat → Int × Int
  | 0 => (1000000000, 0)
  | k + 1 => if (zRu N G (zTr k) k).1 < (zTm N G k).1 then ((zRu N G (zTr k) k).1, 100 * zTr k + (if zTr k = 1 then (k : Int) else 0)) else zTm N G k
theorem zTm_rg {N : Int} {G : Int → Int → Int} {S T : Int} (q_g : zGk N G S T) : ∀ k : Nat, 0 ≤ (zTm N G k).1 ∧ (zTm N G k).1 ≤ 1000000000 := by
  intro k
  induction k with
  | zero => exact ⟨by show (0 : Int) ≤ 1000000000; decide, by show (1000000000 : Int) ≤ 1000000000; decide⟩
  | succ k z_ih =>
    have y := zRu_rg q_g (zTr k) k
    show 0 ≤ (if (zRu N G (zTr k) k).1 < (zTm N G k).1 then ((zRu N G (zTr k) k).1, 100 * zTr k + (if zTr k = 1 then (k : Int) else 0)) else zTm N G k).1 ∧ (if (zRu N G (zTr k) k).1 < (zTm N G k).1 then ((zRu N G (zTr k) k).1, 100 * zTr k + (if zTr k = 1 then (k : Int) else 0)) else zTm N G k).1 ≤ 1000000000
    split
    · dsimp only; omega
    · exact z_ih
theorem zTm_s {N : Int} {G : Int → Int → Int} {k : Nat} {r n x : Int} (q_r : zTr k = r) (q_n : zRu N G r n = zRu N G r k) (q_x : x = 100 * r + (if r = 1 then (k : Int) else 0)) : zTm N G (k + 1) = if (zRu N G r n).1 < (zTm N G k).1 then ((zRu N G r n).1, x) else zTm N G k := by
  subst q_r
  rw [q_n, q_x]
  rfl
def zEB (zh zg : am_H) (zs N : Int) (G : Int → Int → Int) (S T : Int) : Prop := zh = zg ∨ (am_fr [18, 19, 20, 21] zh zg ∧ zg.1 18 0 = iN zs ∧ zBnd zg N G S T)
set_option maxRecDepth 20000 in
set_option maxHeartbeats 4000000 in
theorem jL_bounded (zd : Nat) (q_d : 6 ≤ zd) {zh : am_H} {N : Int} {G : Int → Int → Int} {S T : Int} {zs zk zp : Int} (q_nm : zNm (zh.1 1) (zh.1 2) N G S T) (q_g : zGk N G S T) (q_s : zh.1 1 2 = iN zs) (q_kb : zh.1 18 0 = iN zk) (q_rb : 0 ≤ zs ∧ zs < 2147483648 ∧ 0 ≤ zk ∧ zk < 2147483648) (q_ob : zk = zs → zBnd zh N G S T) (q_zpr : -2147483648 ≤ zp ∧ zp < 2147483648) : am_wp zd am_m_Lp_bounded 0 [(0, .ref 0), (1, .int (iN (zp)))] [] (78, 76) zh (78, 76) (fun rv h' => rv = some (.int (iN (zVbd N G S T zp))) ∧ zEB zh h' zs N G S T) := by
  obtain ⟨zd, rfl⟩ : ∃ y_e, zd = y_e + 6 := ⟨zd - 6, by omega⟩
  have q_N := q_g.1
  refine wp_run (k := 2) (pc1 := 2) (l1 := [(0, .ref 0), (1, .int (iN (zp)))]) (st1 := [.int (iN (-1)), .int (iN (zp))]) (kr1 := (78, 76)) (h1 := zh) rfl ?_
  refine wp_lt (a := zp) (b := -1) rfl (by omega) (by omega) (fun b_2 => ?_) (fun b_2 => ?_)
  · refine wp_run (k := 1) (pc1 := 17) (l1 := [(0, .ref 0), (1, .int (iN (zp)))]) (st1 := [.int (iN (-1))]) (kr1 := (78, 76)) (h1 := zh) rfl ?_
    refine wp_ret (rv := some (.int (iN (-1)))) rfl ?_
    refine ⟨?_, Or.inl rfl⟩
    rw [show zVbd N G S T zp = -1 from ?_]
    unfold zVbd
    (repeat' split) <;> first | rfl | omega | contradiction | (exfalso; omega) | (exfalso; rename_i y_x; exact absurd y_x.2.1 (by assumption)) | (exfalso; rename_i y_x; exact y_x ⟨by omega, by assumption, by omega⟩)
  · refine wp_run (k := 3) (pc1 := 10) (l1 := [(0, .ref 0), (1, .int (iN (zp)))]) (st1 := [.ref 1, .int (iN (zp))]) (kr1 := (78, 76)) (h1 := zh) rfl ?_
    refine wp_call (md1 := am_m_Numbers_size) (As := [.ref 1]) (rest := [.int (iN (zp))]) (kr1 := (78, 76)) rfl (jt_size_1 _ (by omega) q_nm q_g) ?_
    rintro _ _ ⟨rfl, rfl⟩
    refine wp_lt (a := zp) (b := N) rfl (by omega) (by omega) (fun b_13 => ?_) (fun b_13 => ?_)
    · refine wp_run (k := 4) (pc1 := 26) (l1 := [(0, .ref 0), (1, .int (iN (zp)))]) (st1 := [.ref 1, .ref 18]) (kr1 := (78, 76)) (h1 := zh) rfl ?_
      refine wp_call (md1 := am_m_Bounded_refresh) (As := [.ref 18, .ref 1]) (rest := []) (kr1 := (78, 76)) rfl (jt_brefresh _ (by omega) q_nm q_g q_s q_kb q_rb q_ob) ?_
      rintro _ zg1 ⟨rfl, q_f1, q_k1, q_bd1⟩
      have y_d := zD_rg q_g (a := 0) (b := N - 1) (by omega) (by omega) (by omega)
      have y_st : zBst N G S T = 0 ∨ zBst N G S T = -2 ∨ zBst N G S T = -7 := by unfold zBst; (repeat' split) <;> omega
      refine wp_run (k := 2) (pc1 := 33) (l1 := [(0, .ref 0), (1, .int (iN (zp)))]) (st1 := [.ref 18]) (kr1 := (78, 76)) (h1 := zg1) rfl ?_
      refine wp_call (md1 := am_m_Bounded_state) (As := [.ref 18]) (rest := []) (kr1 := (78, 76)) rfl (jg_Bounded_state_18 _ (by omega) q_bd1.1) ?_
      rintro _ _ ⟨rfl, rfl⟩
      refine wp_eq0 (a := zBst N G S T) rfl (by omega) (fun b_36 => ?_) (fun b_36 => ?_)
      · refine wp_run (k := 2) (pc1 := 49) (l1 := [(0, .ref 0), (1, .int (iN (zp)))]) (st1 := [.int (iN (-1)), .int (iN (zp))]) (kr1 := (78, 76)) (h1 := zg1) rfl ?_
        refine wp_ne (a := zp) (b := -1) rfl (by omega) (by omega) (fun b_49 => ?_) (fun b_49 => ?_)
        · refine wp_run (k := 3) (pc1 := 67) (l1 := [(0, .ref 0), (1, .int (iN (zp)))]) (st1 := [.int (iN (zp)), .ref 18]) (kr1 := (78, 76)) (h1 := zg1) rfl ?_
          refine wp_call (md1 := am_m_Bounded_made) (As := [.ref 18, .int (iN (zp))]) (rest := []) (kr1 := (78, 76)) rfl (jg_Bounded_made_18 _ (by omega) (zp := zp) (by omega) ((q_bd1.2 (by omega)).2 (zp) (by omega) (by omega))) ?_
          rintro _ _ ⟨rfl, rfl⟩
          refine wp_ret (rv := some (.int (iN (zBm N G S T (zD G 0 (N - 1)) (zp))))) rfl ?_
          refine ⟨?_, Or.inr ⟨q_f1, q_k1, q_bd1⟩⟩
          rw [show zVbd N G S T zp = zBm N G S T (zD G 0 (N - 1)) (zp) from ?_]
          unfold zVbd
          (repeat' split) <;> first | rfl | omega | contradiction | (exfalso; omega) | (exfalso; rename_i y_x; exact absurd y_x.2.1 (by assumption)) | (exfalso; rename_i y_x; exact y_x ⟨by omega, by assumption, by omega⟩)
        · refine wp_run (k := 2) (pc1 := 56) (l1 := [(0, .ref 0), (1, .int (iN (zp)))]) (st1 := [.ref 18]) (kr1 := (78, 76)) (h1 := zg1) rfl ?_
          refine wp_call (md1 := am_m_Bounded_cost) (As := [.ref 18]) (rest := []) (kr1 := (78, 76)) rfl (jg_Bounded_cost_18 _ (by omega) (q_bd1.2 (by omega)).1) ?_
          rintro _ _ ⟨rfl, rfl⟩
          refine wp_run (k := 1) (pc1 := 70) (l1 := [(0, .ref 0), (1, .int (iN (zp)))]) (st1 := [.int (iN (zVb N G S T (zD G 0 (N - 1)) 0 0))]) (kr1 := (78, 76)) (h1 := zg1) rfl ?_
          refine wp_ret (rv := some (.int (iN (zVb N G S T (zD G 0 (N - 1)) 0 0)))) rfl ?_
          refine ⟨?_, Or.inr ⟨q_f1, q_k1, q_bd1⟩⟩
          rw [show zVbd N G S T zp = zVb N G S T (zD G 0 (N - 1)) 0 0 from ?_]
          unfold zVbd
          (repeat' split) <;> first | rfl | omega | contradiction | (exfalso; omega) | (exfalso; rename_i y_x; exact absurd y_x.2.1 (by assumption)) | (exfalso; rename_i y_x; exact y_x ⟨by omega, by assumption, by omega⟩)
      · refine wp_run (k := 2) (pc1 := 43) (l1 := [(0, .ref 0), (1, .int (iN (zp)))]) (st1 := [.ref 18]) (kr1 := (78, 76)) (h1 := zg1) rfl ?_
        refine wp_call (md1 := am_m_Bounded_state) (As := [.ref 18]) (rest := []) (kr1 := (78, 76)) rfl (jg_Bounded_state_18 _ (by omega) q_bd1.1) ?_
        rintro _ _ ⟨rfl, rfl⟩
        refine wp_ret (rv := some (.int (iN (zBst N G S T)))) rfl ?_
        refine ⟨?_, Or.inr ⟨q_f1, q_k1, q_bd1⟩⟩
        rw [show zVbd N G S T zp = zBst N G S T from ?_]
        unfold zVbd
        (repeat' split) <;> first | rfl | omega | contradiction | (exfalso; omega) | (exfalso; rename_i y_x; exact absurd y_x.2.1 (by assumption)) | (exfalso; rename_i y_x; exact y_x ⟨by omega, by assumption, by omega⟩)
    · refine wp_run (k := 1) (pc1 := 17) (l1 := [(0, .ref 0), (1, .int (iN (zp)))]) (st1 := [.int (iN (-1))]) (kr1 := (78, 76)) (h1 := zh) rfl ?_
      refine wp_ret (rv := some (.int (iN (-1)))) rfl ?_
      refine ⟨?_, Or.inl rfl⟩
      rw [show zVbd N G S T zp = -1 from ?_]
      unfold zVbd
      (repeat' split) <;> first | rfl | omega | contradiction | (exfalso; omega) | (exfalso; rename_i y_x; exact absurd y_x.2.1 (by assumption)) | (exfalso; rename_i y_x; exact y_x ⟨by omega, by assumption, by omega⟩)
set_option maxRecDepth 20000 in
set_option maxHeartbeats 4000000 in
theorem jL_rule (zd : Nat) (q_d : 6 ≤ zd) {zh : am_H} {N : Int} {G : Int → Int → Int} {S T : Int} {zr zn zw : Int} (q_nm : zNm (zh.1 1) (zh.1 2) N G S T) (q_g : zGk N G S T) (q_zrr : -2147483648 ≤ zr ∧ zr < 2147483648) (q_znr : -2147483648 ≤ zn ∧ zn < 2147483648) (q_zwr : -2147483648 ≤ zw ∧ zw < 2147483648) : am_wp zd am_m_Lp_rule 0 [(0, .ref 0), (1, .int (iN (zr))), (2, .int (iN (zn))), (3, .int (iN (zw)))] [] (78, 76) zh (78, 76) (fun rv h' => rv = some (.int (zVru N G zr zn zw)) ∧ am_fr [22] zh h') := by
  obtain ⟨zd, rfl⟩ : ∃ y_e, zd = y_e + 6 := ⟨zd - 6, by omega⟩
  have q_N := q_g.1
  refine wp_run (k := 1) (pc1 := 1) (l1 := [(0, .ref 0), (1, .int (iN (zr))), (2, .int (iN (zn))), (3, .int (iN (zw)))]) (st1 := [.int (iN (zr))]) (kr1 := (78, 76)) (h1 := zh) rfl ?_
  refine wp_lt0 (a := zr) rfl (by omega) (fun b_1 => ?_) (fun b_1 => ?_)
  · refine wp_run (k := 1) (pc1 := 19) (l1 := [(0, .ref 0), (1, .int (iN (zr))), (2, .int (iN (zn))), (3, .int (iN (zw)))]) (st1 := [.int (iN (-1))]) (kr1 := (78, 76)) (h1 := zh) rfl ?_
    refine wp_ret (rv := some (.int (iN (-1)))) rfl ?_
    refine ⟨?_, am_fr_0 _ _⟩
    rw [show zVru N G zr zn zw = iN (-1) from ?_]
    unfold zVru
    (repeat' split) <;> first | rfl | omega | contradiction | (exfalso; omega) | (exfalso; rename_i y_x; exact absurd y_x.2.1 (by assumption)) | (exfalso; rename_i y_x; exact y_x ⟨by omega, by assumption, by omega⟩)
  · refine wp_run (k := 2) (pc1 := 6) (l1 := [(0, .ref 0), (1, .int (iN (zr))), (2, .int (iN (zn))), (3, .int (iN (zw)))]) (st1 := [.int (iN (3)), .int (iN (zr))]) (kr1 := (78, 76)) (h1 := zh) rfl ?_
    refine wp_gt (a := zr) (b := 3) rfl (by omega) (by omega) (fun b_6 => ?_) (fun b_6 => ?_)
    · refine wp_run (k := 1) (pc1 := 19) (l1 := [(0, .ref 0), (1, .int (iN (zr))), (2, .int (iN (zn))), (3, .int (iN (zw)))]) (st1 := [.int (iN (-1))]) (kr1 := (78, 76)) (h1 := zh) rfl ?_
      refine wp_ret (rv := some (.int (iN (-1)))) rfl ?_
      refine ⟨?_, am_fr_0 _ _⟩
      rw [show zVru N G zr zn zw = iN (-1) from ?_]
      unfold zVru
      (repeat' split) <;> first | rfl | omega | contradiction | (exfalso; omega) | (exfalso; rename_i y_x; exact absurd y_x.2.1 (by assumption)) | (exfalso; rename_i y_x; exact y_x ⟨by omega, by assumption, by omega⟩)
    · refine wp_run (k := 1) (pc1 := 10) (l1 := [(0, .ref 0), (1, .int (iN (zr))), (2, .int (iN (zn))), (3, .int (iN (zw)))]) (st1 := [.int (iN (zw))]) (kr1 := (78, 76)) (h1 := zh) rfl ?_
      refine wp_lt0 (a := zw) rfl (by omega) (fun b_10 => ?_) (fun b_10 => ?_)
      · refine wp_run (k := 1) (pc1 := 19) (l1 := [(0, .ref 0), (1, .int (iN (zr))), (2, .int (iN (zn))), (3, .int (iN (zw)))]) (st1 := [.int (iN (-1))]) (kr1 := (78, 76)) (h1 := zh) rfl ?_
        refine wp_ret (rv := some (.int (iN (-1)))) rfl ?_
        refine ⟨?_, am_fr_0 _ _⟩
        rw [show zVru N G zr zn zw = iN (-1) from ?_]
        unfold zVru
        (repeat' split) <;> first | rfl | omega | contradiction | (exfalso; omega) | (exfalso; rename_i y_x; exact absurd y_x.2.1 (by assumption)) | (exfalso; rename_i y_x; exact y_x ⟨by omega, by assumption, by omega⟩)
      · refine wp_run (k := 2) (pc1 := 15) (l1 := [(0, .ref 0), (1, .int (iN (zr))), (2, .int (iN (zn))), (3, .int (iN (zw)))]) (st1 := [.int (iN (2)), .int (iN (zw))]) (kr1 := (78, 76)) (h1 := zh) rfl ?_
        refine wp_le (a := zw) (b := 2) rfl (by omega) (by omega) (fun b_15 => ?_) (fun b_15 => ?_)
        · refine wp_run (k := 2) (pc1 := 22) (l1 := [(0, .ref 0), (1, .int (iN (zr))), (2, .int (iN (zn))), (3, .int (iN (zw)))]) (st1 := [.int (iN (1)), .int (iN (zr))]) (kr1 := (78, 76)) (h1 := zh) rfl ?_
          refine wp_ne (a := zr) (b := 1) rfl (by omega) (by omega) (fun b_22 => ?_) (fun b_22 => ?_)
          · refine wp_run (k := 6) (pc1 := 48) (l1 := [(0, .ref 0), (1, .int (iN (zr))), (2, .int (iN (zn))), (3, .int (iN (zw)))]) (st1 := [.int (iN (zn)), .int (iN (zr)), .ref 1, .ref 22]) (kr1 := (78, 76)) (h1 := zh) rfl ?_
            refine wp_call (md1 := am_m_ByRule_reckon) (As := [.ref 22, .ref 1, .int (iN (zr)), .int (iN (zn))]) (rest := []) (kr1 := (78, 76)) rfl (jt_rreckon (zr := zr) (zn := zn) _ (by omega) q_nm q_g (by omega) (by omega)) ?_
            rintro _ zg1 ⟨rfl, q_f1, q_c1, q_l1, q_be1⟩
            refine wp_run (k := 1) (pc1 := 52) (l1 := [(0, .ref 0), (1, .int (iN (zr))), (2, .int (iN (zn))), (3, .int (iN (zw)))]) (st1 := [.int (iN (zw))]) (kr1 := (78, 76)) (h1 := zg1) rfl ?_
            refine wp_ne0 (a := zw) rfl (by omega) (fun b_52 => ?_) (fun b_52 => ?_)
            · refine wp_run (k := 2) (pc1 := 65) (l1 := [(0, .ref 0), (1, .int (iN (zr))), (2, .int (iN (zn))), (3, .int (iN (zw)))]) (st1 := [.int (iN (1)), .int (iN (zw))]) (kr1 := (78, 76)) (h1 := zg1) rfl ?_
              refine wp_ne (a := zw) (b := 1) rfl (by omega) (by omega) (fun b_65 => ?_) (fun b_65 => ?_)
              · refine wp_run (k := 2) (pc1 := 82) (l1 := [(0, .ref 0), (1, .int (iN (zr))), (2, .int (iN (zn))), (3, .int (iN (zw)))]) (st1 := [.ref 22]) (kr1 := (78, 76)) (h1 := zg1) rfl ?_
                refine wp_call (md1 := am_m_ByRule_begins) (As := [.ref 22]) (rest := []) (kr1 := (78, 76)) rfl (jg_ByRule_begins_22 _ (by omega) (zv := ((zRu N G zr zn).2.2).toInt) (by rw [iN_self]; exact q_be1)) ?_
                rintro _ _ ⟨rfl, rfl⟩
                refine wp_ret (rv := some (.int ((iN ((zRu N G zr zn).2.2).toInt)))) rfl ?_
                refine ⟨?_, q_f1⟩
                rw [iN_self]
                unfold zVru
                rw [if_neg (by omega), if_neg (by omega), if_neg (by omega)]
              · refine wp_run (k := 2) (pc1 := 72) (l1 := [(0, .ref 0), (1, .int (iN (zr))), (2, .int (iN (zn))), (3, .int (iN (zw)))]) (st1 := [.ref 22]) (kr1 := (78, 76)) (h1 := zg1) rfl ?_
                refine wp_call (md1 := am_m_ByRule_lots) (As := [.ref 22]) (rest := []) (kr1 := (78, 76)) rfl (jg_ByRule_lots_22 _ (by omega) q_l1) ?_
                rintro _ _ ⟨rfl, rfl⟩
                refine wp_run (k := 1) (pc1 := 85) (l1 := [(0, .ref 0), (1, .int (iN (zr))), (2, .int (iN (zn))), (3, .int (iN (zw)))]) (st1 := [.int (iN ((zRu N G zr zn).2.1))]) (kr1 := (78, 76)) (h1 := zg1) rfl ?_
                refine wp_ret (rv := some (.int (iN ((zRu N G zr zn).2.1)))) rfl ?_
                refine ⟨?_, q_f1⟩
                rw [show zVru N G zr zn zw = iN ((zRu N G zr zn).2.1) from ?_]
                unfold zVru
                (repeat' split) <;> first | rfl | omega | contradiction | (exfalso; omega) | (exfalso; rename_i y_x; exact absurd y_x.2.1 (by assumption)) | (exfalso; rename_i y_x; exact y_x ⟨by omega, by assumption, by omega⟩)
            · refine wp_run (k := 2) (pc1 := 59) (l1 := [(0, .ref 0), (1, .int (iN (zr))), (2, .int (iN (zn))), (3, .int (iN (zw)))]) (st1 := [.ref 22]) (kr1 := (78, 76)) (h1 := zg1) rfl ?_
              refine wp_call (md1 := am_m_ByRule_cost) (As := [.ref 22]) (rest := []) (kr1 := (78, 76)) rfl (jg_ByRule_cost_22 _ (by omega) q_c1) ?_
              rintro _ _ ⟨rfl, rfl⟩
              refine wp_ret (rv := some (.int (iN ((zRu N G zr zn).1)))) rfl ?_
              refine ⟨?_, q_f1⟩
              rw [show zVru N G zr zn zw = iN ((zRu N G zr zn).1) from ?_]
              unfold zVru
              (repeat' split) <;> first | rfl | omega | contradiction | (exfalso; omega) | (exfalso; rename_i y_x; exact absurd y_x.2.1 (by assumption)) | (exfalso; rename_i y_x; exact y_x ⟨by omega, by assumption, by omega⟩)
          · refine wp_run (k := 2) (pc1 := 27) (l1 := [(0, .ref 0), (1, .int (iN (zr))), (2, .int (iN (zn))), (3, .int (iN (zw)))]) (st1 := [.int (iN (1)), .int (iN (zn))]) (kr1 := (78, 76)) (h1 := zh) rfl ?_
            refine wp_lt (a := zn) (b := 1) rfl (by omega) (by omega) (fun b_27 => ?_) (fun b_27 => ?_)
            · refine wp_run (k := 1) (pc1 := 37) (l1 := [(0, .ref 0), (1, .int (iN (zr))), (2, .int (iN (zn))), (3, .int (iN (zw)))]) (st1 := [.int (iN (-1))]) (kr1 := (78, 76)) (h1 := zh) rfl ?_
              refine wp_ret (rv := some (.int (iN (-1)))) rfl ?_
              refine ⟨?_, am_fr_0 _ _⟩
              rw [show zVru N G zr zn zw = iN (-1) from ?_]
              unfold zVru
              (repeat' split) <;> first | rfl | omega | contradiction | (exfalso; omega) | (exfalso; rename_i y_x; exact absurd y_x.2.1 (by assumption)) | (exfalso; rename_i y_x; exact y_x ⟨by omega, by assumption, by omega⟩)
            · refine wp_run (k := 2) (pc1 := 33) (l1 := [(0, .ref 0), (1, .int (iN (zr))), (2, .int (iN (zn))), (3, .int (iN (zw)))]) (st1 := [.int (iN (16)), .int (iN (zn))]) (kr1 := (78, 76)) (h1 := zh) rfl ?_
              refine wp_le (a := zn) (b := 16) rfl (by omega) (by omega) (fun b_33 => ?_) (fun b_33 => ?_)
              · refine wp_run (k := 6) (pc1 := 48) (l1 := [(0, .ref 0), (1, .int (iN (zr))), (2, .int (iN (zn))), (3, .int (iN (zw)))]) (st1 := [.int (iN (zn)), .int (iN (zr)), .ref 1, .ref 22]) (kr1 := (78, 76)) (h1 := zh) rfl ?_
                refine wp_call (md1 := am_m_ByRule_reckon) (As := [.ref 22, .ref 1, .int (iN (zr)), .int (iN (zn))]) (rest := []) (kr1 := (78, 76)) rfl (jt_rreckon (zr := zr) (zn := zn) _ (by omega) q_nm q_g (by omega) (by omega)) ?_
                rintro _ zg1 ⟨rfl, q_f1, q_c1, q_l1, q_be1⟩
                refine wp_run (k := 1) (pc1 := 52) (l1 := [(0, .ref 0), (1, .int (iN (zr))), (2, .int (iN (zn))), (3, .int (iN (zw)))]) (st1 := [.int (iN (zw))]) (kr1 := (78, 76)) (h1 := zg1) rfl ?_
                refine wp_ne0 (a := zw) rfl (by omega) (fun b_52 => ?_) (fun b_52 => ?_)
                · refine wp_run (k := 2) (pc1 := 65) (l1 := [(0, .ref 0), (1, .int (iN (zr))), (2, .int (iN (zn))), (3, .int (iN (zw)))]) (st1 := [.int (iN (1)), .int (iN (zw))]) (kr1 := (78, 76)) (h1 := zg1) rfl ?_
                  refine wp_ne (a := zw) (b := 1) rfl (by omega) (by omega) (fun b_65 => ?_) (fun b_65 => ?_)
                  · refine wp_run (k := 2) (pc1 := 82) (l1 := [(0, .ref 0), (1, .int (iN (zr))), (2, .int (iN (zn))), (3, .int (iN (zw)))]) (st1 := [.ref 22]) (kr1 := (78, 76)) (h1 := zg1) rfl ?_
                    refine wp_call (md1 := am_m_ByRule_begins) (As := [.ref 22]) (rest := []) (kr1 := (78, 76)) rfl (jg_ByRule_begins_22 _ (by omega) (zv := ((zRu N G zr zn).2.2).toInt) (by rw [iN_self]; exact q_be1)) ?_
                    rintro _ _ ⟨rfl, rfl⟩
                    refine wp_ret (rv := some (.int ((iN ((zRu N G zr zn).2.2).toInt)))) rfl ?_
                    refine ⟨?_, q_f1⟩
                    rw [iN_self]
                    unfold zVru
                    rw [if_neg (by omega), if_neg (by omega), if_neg (by omega)]
                  · refine wp_run (k := 2) (pc1 := 72) (l1 := [(0, .ref 0), (1, .int (iN (zr))), (2, .int (iN (zn))), (3, .int (iN (zw)))]) (st1 := [.ref 22]) (kr1 := (78, 76)) (h1 := zg1) rfl ?_
                    refine wp_call (md1 := am_m_ByRule_lots) (As := [.ref 22]) (rest := []) (kr1 := (78, 76)) rfl (jg_ByRule_lots_22 _ (by omega) q_l1) ?_
                    rintro _ _ ⟨rfl, rfl⟩
                    refine wp_run (k := 1) (pc1 := 85) (l1 := [(0, .ref 0), (1, .int (iN (zr))), (2, .int (iN (zn))), (3, .int (iN (zw)))]) (st1 := [.int (iN ((zRu N G zr zn).2.1))]) (kr1 := (78, 76)) (h1 := zg1) rfl ?_
                    refine wp_ret (rv := some (.int (iN ((zRu N G zr zn).2.1)))) rfl ?_
                    refine ⟨?_, q_f1⟩
                    rw [show zVru N G zr zn zw = iN ((zRu N G zr zn).2.1) from ?_]
                    unfold zVru
                    (repeat' split) <;> first | rfl | omega | contradiction | (exfalso; omega) | (exfalso; rename_i y_x; exact absurd y_x.2.1 (by assumption)) | (exfalso; rename_i y_x; exact y_x ⟨by omega, by assumption, by omega⟩)
                · refine wp_run (k := 2) (pc1 := 59) (l1 := [(0, .ref 0), (1, .int (iN (zr))), (2, .int (iN (zn))), (3, .int (iN (zw)))]) (st1 := [.ref 22]) (kr1 := (78, 76)) (h1 := zg1) rfl ?_
                  refine wp_call (md1 := am_m_ByRule_cost) (As := [.ref 22]) (rest := []) (kr1 := (78, 76)) rfl (jg_ByRule_cost_22 _ (by omega) q_c1) ?_
                  rintro _ _ ⟨rfl, rfl⟩
                  refine wp_ret (rv := some (.int (iN ((zRu N G zr zn).1)))) rfl ?_
                  refine ⟨?_, q_f1⟩
                  rw [show zVru N G zr zn zw = iN ((zRu N G zr zn).1) from ?_]
                  unfold zVru
                  (repeat' split) <;> first | rfl | omega | contradiction | (exfalso; omega) | (exfalso; rename_i y_x; exact absurd y_x.2.1 (by assumption)) | (exfalso; rename_i y_x; exact y_x ⟨by omega, by assumption, by omega⟩)
              · refine wp_run (k := 1) (pc1 := 37) (l1 := [(0, .ref 0), (1, .int (iN (zr))), (2, .int (iN (zn))), (3, .int (iN (zw)))]) (st1 := [.int (iN (-1))]) (kr1 := (78, 76)) (h1 := zh) rfl ?_
                refine wp_ret (rv := some (.int (iN (-1)))) rfl ?_
                refine ⟨?_, am_fr_0 _ _⟩
                rw [show zVru N G zr zn zw = iN (-1) from ?_]
                unfold zVru
                (repeat' split) <;> first | rfl | omega | contradiction | (exfalso; omega) | (exfalso; rename_i y_x; exact absurd y_x.2.1 (by assumption)) | (exfalso; rename_i y_x; exact y_x ⟨by omega, by assumption, by omega⟩)
        · refine wp_run (k := 1) (pc1 := 19) (l1 := [(0, .ref 0), (1, .int (iN (zr))), (2, .int (iN (zn))), (3, .int (iN (zw)))]) (st1 := [.int (iN (-1))]) (kr1 := (78, 76)) (h1 := zh) rfl ?_
          refine wp_ret (rv := some (.int (iN (-1)))) rfl ?_
          refine ⟨?_, am_fr_0 _ _⟩
          rw [show zVru N G zr zn zw = iN (-1) from ?_]
          unfold zVru
          (repeat' split) <;> first | rfl | omega | contradiction | (exfalso; omega) | (exfalso; rename_i y_x; exact absurd y_x.2.1 (by assumption)) | (exfalso; rename_i y_x; exact y_x ⟨by omega, by assumption, by omega⟩)
set_option maxRecDepth 20000 in
set_option maxHeartbeats 4000000 in
theorem jl_thumb (zd : Nat) (q_d : 6 ≤ zd) {zh : am_H} {N : Int} {G : Int → Int → Int} {S T : Int} (q_nm : zNm (zh.1 1) (zh.1 2) N G S T) (q_g : zGk N G S T) {zQ : Option Value → am_H → Prop} (zk : ∀ zg : am_H, am_fr [22] zh zg → am_wp zd am_m_Lp_thumb 91 [(0, .ref 0), (1, .int (iN ((zTm N G 17).2))), (2, .int (iN ((zTm N G 17).1))), (3, .int (iN (1))), (4, .int (iN (16))), (5, .int (iN (17)))] [] (78, 76) zg (78, 76) zQ) : ∀ (z_n : Nat) (zg : am_H) (zn : Nat) (zb : Int) (zc : Int) (q_f : am_fr [22] zh zg) (q_n : 1 ≤ zn ∧ zn ≤ 17) (q_z : (zc, zb) = zTm N G zn), (17 : Int) - zn < (z_n : Int) → am_wp zd am_m_Lp_thumb 28 [(0, .ref 0), (1, .int (iN (zb))), (2, .int (iN (zc))), (3, .int (iN (1))), (4, .int (iN (16))), (5, .int (iN ((zn : Int))))] [] (78, 76) zg (78, 76) zQ := by
  obtain ⟨zd, rfl⟩ : ∃ y_e, zd = y_e + 6 := ⟨zd - 6, by omega⟩
  intro z_n
  induction z_n with
  | zero => intro zg zn zb zc q_f q_n q_z q_m; omega
  | succ z_n z_ih =>
    intro zg zn zb zc q_f q_n q_z q_m
    have q_N := q_g.1
    refine wp_run (k := 2) (pc1 := 32) (l1 := [(0, .ref 0), (1, .int (iN (zb))), (2, .int (iN (zc))), (3, .int (iN (1))), (4, .int (iN (16))), (5, .int (iN ((zn : Int))))]) (st1 := [.int (iN (16)), .int (iN ((zn : Int)))]) (kr1 := (78, 76)) (h1 := zg) rfl ?_
    refine wp_gt (a := (zn : Int)) (b := 16) rfl (by omega) (by omega) (fun b_32 => ?_) (fun b_32 => ?_)
    · have y_n : zn = 17 := by omega
      subst y_n
      rw [show zb = (zTm N G 17).2 by rw [← q_z], show zc = (zTm N G 17).1 by rw [← q_z]]
      exact zk zg q_f
    · have y_r := zRu_rg q_g 1 (zn : Int)
      have y_tm := zTm_rg q_g zn
      rw [← q_z] at y_tm
      dsimp only at y_tm
      refine wp_run (k := 6) (pc1 := 46) (l1 := [(0, .ref 0), (1, .int (iN (zb))), (2, .int (iN (zc))), (3, .int (iN (1))), (4, .int (iN (16))), (5, .int (iN ((zn : Int))))]) (st1 := [.int (iN ((zn : Int))), .int (iN (1)), .ref 1, .ref 22]) (kr1 := (78, 76)) (h1 := zg) rfl ?_
      refine wp_call (md1 := am_m_ByRule_reckon) (As := [.ref 22, .ref 1, .int (iN (1)), .int (iN ((zn : Int)))]) (rest := []) (kr1 := (78, 76)) rfl (jt_rreckon (zr := 1) (zn := (zn : Int)) _ (by omega) (zNm_f q_f q_nm (by decide) (by decide)) q_g (by omega) (by omega)) ?_
      rintro _ zg1 ⟨rfl, q_f1a, q_c1, q_l1, q_be1⟩
      have q_f1 := am_fr_t q_f q_f1a
      refine wp_run (k := 2) (pc1 := 53) (l1 := [(0, .ref 0), (1, .int (iN (zb))), (2, .int (iN (zc))), (3, .int (iN (1))), (4, .int (iN (16))), (5, .int (iN ((zn : Int))))]) (st1 := [.ref 22]) (kr1 := (78, 76)) (h1 := zg1) rfl ?_
      refine wp_call (md1 := am_m_ByRule_cost) (As := [.ref 22]) (rest := []) (kr1 := (78, 76)) rfl (jg_ByRule_cost_22 _ (by omega) q_c1) ?_
      rintro _ _ ⟨rfl, rfl⟩
      refine wp_run (k := 1) (pc1 := 57) (l1 := [(0, .ref 0), (1, .int (iN (zb))), (2, .int (iN (zc))), (3, .int (iN (1))), (4, .int (iN (16))), (5, .int (iN ((zn : Int))))]) (st1 := [.int (iN (zc)), .int (iN ((zRu N G 1 (zn : Int)).1))]) (kr1 := (78, 76)) (h1 := zg1) rfl ?_
      refine wp_ge (a := (zRu N G 1 (zn : Int)).1) (b := zc) rfl (by omega) (by omega) (fun b_57 => ?_) (fun b_57 => ?_)
      · refine wp_run (k := 2) (pc1 := 28) (l1 := [(0, .ref 0), (1, .int (iN (zb))), (2, .int (iN (zc))), (3, .int (iN (1))), (4, .int (iN (16))), (5, .int (iN (((zn : Int)) + 1)))]) (st1 := []) (kr1 := (78, 76)) (h1 := zg1) (Eq.trans (b := (some (28, [(0, .ref 0), (1, .int (iN (zb))), (2, .int (iN (zc))), (3, .int (iN (1))), (4, .int (iN (16))), (5, .int ((iN ((zn : Int))) + iN (1)))], [], (78, 76), zg1) : Option am_C)) rfl (by simp only [Int32.ofInt_add, Int32.ofInt_sub, Int32.ofInt_mul, Int32.ofInt_neg])) ?_
        have y_s := zTm_s (N := N) (G := G) (k := zn) (r := 1) (n := (zn : Int)) (x := 100 + (zn : Int)) (by unfold zTr; rw [if_neg (by omega), if_pos (by omega)]) rfl (by omega)
        refine z_ih zg1 (zn + 1) (zb) (zc) q_f1 (by omega) ?_ (by omega)
        rw [y_s, if_neg (by rw [← q_z]; omega), ← q_z]
      · refine wp_run (k := 2) (pc1 := 64) (l1 := [(0, .ref 0), (1, .int (iN (zb))), (2, .int (iN (zc))), (3, .int (iN (1))), (4, .int (iN (16))), (5, .int (iN ((zn : Int))))]) (st1 := [.ref 22]) (kr1 := (78, 76)) (h1 := zg1) rfl ?_
        refine wp_call (md1 := am_m_ByRule_cost) (As := [.ref 22]) (rest := []) (kr1 := (78, 76)) rfl (jg_ByRule_cost_22 _ (by omega) q_c1) ?_
        rintro _ _ ⟨rfl, rfl⟩
        refine wp_run (k := 6) (pc1 := 74) (l1 := [(0, .ref 0), (1, .int (iN (zb))), (2, .int (iN ((zRu N G 1 (zn : Int)).1))), (3, .int (iN (1))), (4, .int (iN (16))), (5, .int (iN ((zn : Int))))]) (st1 := [.int (iN (1)), .int (iN (1)), .int (iN ((100) * (1)))]) (kr1 := (78, 76)) (h1 := zg1) (Eq.trans (b := (some (74, [(0, .ref 0), (1, .int (iN (zb))), (2, .int (iN ((zRu N G 1 (zn : Int)).1))), (3, .int (iN (1))), (4, .int (iN (16))), (5, .int (iN ((zn : Int))))], [.int (iN (1)), .int (iN (1)), .int ((iN (100)) * (iN (1)))], (78, 76), zg1) : Option am_C)) rfl (by simp only [Int32.ofInt_add, Int32.ofInt_sub, Int32.ofInt_mul, Int32.ofInt_neg])) ?_
        refine wp_ne (a := 1) (b := 1) rfl (by omega) (by omega) (fun b_74 => ?_) (fun b_74 => ?_)
        · exact absurd b_74 (by decide)
        · refine wp_run (k := 6) (pc1 := 28) (l1 := [(0, .ref 0), (1, .int (iN (((100) * (1)) + ((zn : Int))))), (2, .int (iN ((zRu N G 1 (zn : Int)).1))), (3, .int (iN (1))), (4, .int (iN (16))), (5, .int (iN (((zn : Int)) + 1)))]) (st1 := []) (kr1 := (78, 76)) (h1 := zg1) (Eq.trans (b := (some (28, [(0, .ref 0), (1, .int ((iN ((100) * (1))) + (iN ((zn : Int))))), (2, .int (iN ((zRu N G 1 (zn : Int)).1))), (3, .int (iN (1))), (4, .int (iN (16))), (5, .int ((iN ((zn : Int))) + iN (1)))], [], (78, 76), zg1) : Option am_C)) rfl (by simp only [Int32.ofInt_add, Int32.ofInt_sub, Int32.ofInt_mul, Int32.ofInt_neg])) ?_
          have y_s := zTm_s (N := N) (G := G) (k := zn) (r := 1) (n := (zn : Int)) (x := 100 + (zn : Int)) (by unfold zTr; rw [if_neg (by omega), if_pos (by omega)]) rfl (by omega)
          refine z_ih zg1 (zn + 1) (((100) * (1)) + ((zn : Int))) ((zRu N G 1 (zn : Int)).1) q_f1 (by omega) ?_ (by omega)
          rw [y_s, if_pos (by rw [← q_z]; omega)]
          exact congrArg (Prod.mk _) (by omega)
set_option maxRecDepth 20000 in
set_option maxHeartbeats 4000000 in
theorem jL_thumb (zd : Nat) (q_d : 6 ≤ zd) {zh : am_H} {N : Int} {G : Int → Int → Int} {S T : Int} (q_nm : zNm (zh.1 1) (zh.1 2) N G S T) (q_g : zGk N G S T) : am_wp zd am_m_Lp_thumb 0 [(0, .ref 0)] [] (78, 76) zh (78, 76) (fun rv h' => rv = some (.int (iN (zTm N G 19).2)) ∧ am_fr [22] zh h') := by
  obtain ⟨zd, rfl⟩ : ∃ y_e, zd = y_e + 6 := ⟨zd - 6, by omega⟩
  have q_N := q_g.1
  refine wp_run (k := 6) (pc1 := 7) (l1 := [(0, .ref 0), (1, .int (iN (0))), (2, .int (iN (1000000000))), (3, .int (iN (0)))]) (st1 := []) (kr1 := (78, 76)) (h1 := zh) rfl ?_
  refine wp_run (k := 2) (pc1 := 9) (l1 := [(0, .ref 0), (1, .int (iN (0))), (2, .int (iN (1000000000))), (3, .int (iN (0)))]) (st1 := [.int (iN (3)), .int (iN (0))]) (kr1 := (78, 76)) (h1 := zh) rfl ?_
  refine wp_gt (a := 0) (b := 3) rfl (by omega) (by omega) (fun b_9 => ?_) (fun b_9 => ?_)
  · exact absurd b_9 (by decide)
  · refine wp_run (k := 2) (pc1 := 14) (l1 := [(0, .ref 0), (1, .int (iN (0))), (2, .int (iN (1000000000))), (3, .int (iN (0)))]) (st1 := [.int (iN (1)), .int (iN (0))]) (kr1 := (78, 76)) (h1 := zh) rfl ?_
    refine wp_ne (a := 0) (b := 1) rfl (by omega) (by omega) (fun b_14 => ?_) (fun b_14 => ?_)
    · refine wp_run (k := 4) (pc1 := 28) (l1 := [(0, .ref 0), (1, .int (iN (0))), (2, .int (iN (1000000000))), (3, .int (iN (0))), (4, .int (iN (1))), (5, .int (iN (1)))]) (st1 := []) (kr1 := (78, 76)) (h1 := zh) rfl ?_
      refine wp_run (k := 2) (pc1 := 32) (l1 := [(0, .ref 0), (1, .int (iN (0))), (2, .int (iN (1000000000))), (3, .int (iN (0))), (4, .int (iN (1))), (5, .int (iN (1)))]) (st1 := [.int (iN (1)), .int (iN (1))]) (kr1 := (78, 76)) (h1 := zh) rfl ?_
      refine wp_gt (a := 1) (b := 1) rfl (by omega) (by omega) (fun b_32 => ?_) (fun b_32 => ?_)
      · exact absurd b_32 (by decide)
      · refine wp_run (k := 6) (pc1 := 46) (l1 := [(0, .ref 0), (1, .int (iN (0))), (2, .int (iN (1000000000))), (3, .int (iN (0))), (4, .int (iN (1))), (5, .int (iN (1)))]) (st1 := [.int (iN (1)), .int (iN (0)), .ref 1, .ref 22]) (kr1 := (78, 76)) (h1 := zh) rfl ?_
        refine wp_call (md1 := am_m_ByRule_reckon) (As := [.ref 22, .ref 1, .int (iN (0)), .int (iN (1))]) (rest := []) (kr1 := (78, 76)) rfl (jt_rreckon (zr := 0) (zn := 1) _ (by omega) (zNm_f (ks := [22]) (am_fr_0 _ _) q_nm (by decide) (by decide)) q_g (by omega) (by omega)) ?_
        rintro _ zt1 ⟨rfl, q_u1, q_c1, q_l1, q_be1⟩
        have q_gt1 : am_fr [22] zh zt1 := am_fr_t (am_fr_0 _ _) q_u1
        have y_r1 := zRu_rg q_g 0 1
        refine wp_run (k := 2) (pc1 := 53) (l1 := [(0, .ref 0), (1, .int (iN (0))), (2, .int (iN (1000000000))), (3, .int (iN (0))), (4, .int (iN (1))), (5, .int (iN (1)))]) (st1 := [.ref 22]) (kr1 := (78, 76)) (h1 := zt1) rfl ?_
        refine wp_call (md1 := am_m_ByRule_cost) (As := [.ref 22]) (rest := []) (kr1 := (78, 76)) rfl (jg_ByRule_cost_22 _ (by omega) q_c1) ?_
        rintro _ _ ⟨rfl, rfl⟩
        refine wp_run (k := 1) (pc1 := 57) (l1 := [(0, .ref 0), (1, .int (iN (0))), (2, .int (iN (1000000000))), (3, .int (iN (0))), (4, .int (iN (1))), (5, .int (iN (1)))]) (st1 := [.int (iN (1000000000)), .int (iN ((zRu N G 0 1).1))]) (kr1 := (78, 76)) (h1 := zt1) rfl ?_
        refine wp_ge (a := (zRu N G 0 1).1) (b := 1000000000) rfl (by omega) (by omega) (fun b_57 => ?_) (fun b_57 => ?_)
        · exact absurd b_57 (by omega)
        · refine wp_run (k := 2) (pc1 := 64) (l1 := [(0, .ref 0), (1, .int (iN (0))), (2, .int (iN (1000000000))), (3, .int (iN (0))), (4, .int (iN (1))), (5, .int (iN (1)))]) (st1 := [.ref 22]) (kr1 := (78, 76)) (h1 := zt1) rfl ?_
          refine wp_call (md1 := am_m_ByRule_cost) (As := [.ref 22]) (rest := []) (kr1 := (78, 76)) rfl (jg_ByRule_cost_22 _ (by omega) q_c1) ?_
          rintro _ _ ⟨rfl, rfl⟩
          refine wp_run (k := 6) (pc1 := 74) (l1 := [(0, .ref 0), (1, .int (iN (0))), (2, .int (iN ((zRu N G 0 1).1))), (3, .int (iN (0))), (4, .int (iN (1))), (5, .int (iN (1)))]) (st1 := [.int (iN (1)), .int (iN (0)), .int (iN ((100) * (0)))]) (kr1 := (78, 76)) (h1 := zt1) (Eq.trans (b := (some (74, [(0, .ref 0), (1, .int (iN (0))), (2, .int (iN ((zRu N G 0 1).1))), (3, .int (iN (0))), (4, .int (iN (1))), (5, .int (iN (1)))], [.int (iN (1)), .int (iN (0)), .int ((iN (100)) * (iN (0)))], (78, 76), zt1) : Option am_C)) rfl (by simp only [Int32.ofInt_add, Int32.ofInt_sub, Int32.ofInt_mul, Int32.ofInt_neg])) ?_
          refine wp_ne (a := 0) (b := 1) rfl (by omega) (by omega) (fun b_74 => ?_) (fun b_74 => ?_)
          · refine wp_run (k := 3) (pc1 := 85) (l1 := [(0, .ref 0), (1, .int (iN (((100) * (0)) + (0)))), (2, .int (iN ((zRu N G 0 1).1))), (3, .int (iN (0))), (4, .int (iN (1))), (5, .int (iN (1)))]) (st1 := []) (kr1 := (78, 76)) (h1 := zt1) (Eq.trans (b := (some (85, [(0, .ref 0), (1, .int ((iN ((100) * (0))) + (iN (0)))), (2, .int (iN ((zRu N G 0 1).1))), (3, .int (iN (0))), (4, .int (iN (1))), (5, .int (iN (1)))], [], (78, 76), zt1) : Option am_C)) rfl (by simp only [Int32.ofInt_add, Int32.ofInt_sub, Int32.ofInt_mul, Int32.ofInt_neg])) ?_
            rw [show ((100) * (0)) + (0) = (0 : Int) from by decide]
            refine wp_run (k := 2) (pc1 := 28) (l1 := [(0, .ref 0), (1, .int (iN (0))), (2, .int (iN ((zRu N G 0 1).1))), (3, .int (iN (0))), (4, .int (iN (1))), (5, .int (iN ((1) + 1)))]) (st1 := []) (kr1 := (78, 76)) (h1 := zt1) (Eq.trans (b := (some (28, [(0, .ref 0), (1, .int (iN (0))), (2, .int (iN ((zRu N G 0 1).1))), (3, .int (iN (0))), (4, .int (iN (1))), (5, .int ((iN (1)) + iN (1)))], [], (78, 76), zt1) : Option am_C)) rfl (by simp only [Int32.ofInt_add, Int32.ofInt_sub, Int32.ofInt_mul, Int32.ofInt_neg])) ?_
            rw [show (1) + 1 = (2 : Int) from by decide]
            refine wp_run (k := 2) (pc1 := 32) (l1 := [(0, .ref 0), (1, .int (iN (0))), (2, .int (iN ((zRu N G 0 1).1))), (3, .int (iN (0))), (4, .int (iN (1))), (5, .int (iN (2)))]) (st1 := [.int (iN (1)), .int (iN (2))]) (kr1 := (78, 76)) (h1 := zt1) rfl ?_
            refine wp_gt (a := 2) (b := 1) rfl (by omega) (by omega) (fun b_32_6 => ?_) (fun b_32_6 => ?_)
            · refine wp_run (k := 2) (pc1 := 7) (l1 := [(0, .ref 0), (1, .int (iN (0))), (2, .int (iN ((zRu N G 0 1).1))), (3, .int (iN ((0) + 1))), (4, .int (iN (1))), (5, .int (iN (2)))]) (st1 := []) (kr1 := (78, 76)) (h1 := zt1) (Eq.trans (b := (some (7, [(0, .ref 0), (1, .int (iN (0))), (2, .int (iN ((zRu N G 0 1).1))), (3, .int ((iN (0)) + iN (1))), (4, .int (iN (1))), (5, .int (iN (2)))], [], (78, 76), zt1) : Option am_C)) rfl (by simp only [Int32.ofInt_add, Int32.ofInt_sub, Int32.ofInt_mul, Int32.ofInt_neg])) ?_
              rw [show (0) + 1 = (1 : Int) from by decide]
              refine wp_run (k := 2) (pc1 := 9) (l1 := [(0, .ref 0), (1, .int (iN (0))), (2, .int (iN ((zRu N G 0 1).1))), (3, .int (iN (1))), (4, .int (iN (1))), (5, .int (iN (2)))]) (st1 := [.int (iN (3)), .int (iN (1))]) (kr1 := (78, 76)) (h1 := zt1) rfl ?_
              refine wp_gt (a := 1) (b := 3) rfl (by omega) (by omega) (fun b_9_7 => ?_) (fun b_9_7 => ?_)
              · exact absurd b_9_7 (by decide)
              · refine wp_run (k := 2) (pc1 := 14) (l1 := [(0, .ref 0), (1, .int (iN (0))), (2, .int (iN ((zRu N G 0 1).1))), (3, .int (iN (1))), (4, .int (iN (1))), (5, .int (iN (2)))]) (st1 := [.int (iN (1)), .int (iN (1))]) (kr1 := (78, 76)) (h1 := zt1) rfl ?_
                refine wp_ne (a := 1) (b := 1) rfl (by omega) (by omega) (fun b_14_8 => ?_) (fun b_14_8 => ?_)
                · exact absurd b_14_8 (by decide)
                · refine wp_run (k := 5) (pc1 := 28) (l1 := [(0, .ref 0), (1, .int (iN (0))), (2, .int (iN ((zRu N G 0 1).1))), (3, .int (iN (1))), (4, .int (iN (16))), (5, .int (iN (1)))]) (st1 := []) (kr1 := (78, 76)) (h1 := zt1) rfl ?_
                  have y_t1 : (((zRu N G 0 1).1), (0)) = zTm N G 1 := by rw [zTm_s (N := N) (G := G) (k := 0) (r := 0) (n := 1) (x := 0) rfl (zRu_n _ _ (by decide)) (by decide)]; exact (if_pos (show (zRu N G 0 1).1 < 1000000000 by omega)).symm
                  refine jl_thumb (zh := zh) _ (by omega) q_nm q_g ?_ 20 zt1 1 (0) ((zRu N G 0 1).1) q_gt1 (by omega) y_t1 (by omega)
                  intro zt9 q_gt9
                  have y_tm := zTm_rg q_g 17
                  refine wp_run (k := 2) (pc1 := 7) (l1 := [(0, .ref 0), (1, .int (iN ((zTm N G 17).2))), (2, .int (iN ((zTm N G 17).1))), (3, .int (iN ((1) + 1))), (4, .int (iN (16))), (5, .int (iN (17)))]) (st1 := []) (kr1 := (78, 76)) (h1 := zt9) (Eq.trans (b := (some (7, [(0, .ref 0), (1, .int (iN ((zTm N G 17).2))), (2, .int (iN ((zTm N G 17).1))), (3, .int ((iN (1)) + iN (1))), (4, .int (iN (16))), (5, .int (iN (17)))], [], (78, 76), zt9) : Option am_C)) rfl (by simp only [Int32.ofInt_add, Int32.ofInt_sub, Int32.ofInt_mul, Int32.ofInt_neg])) ?_
                  rw [show (1) + 1 = (2 : Int) from by decide]
                  refine wp_run (k := 2) (pc1 := 9) (l1 := [(0, .ref 0), (1, .int (iN ((zTm N G 17).2))), (2, .int (iN ((zTm N G 17).1))), (3, .int (iN (2))), (4, .int (iN (16))), (5, .int (iN (17)))]) (st1 := [.int (iN (3)), .int (iN (2))]) (kr1 := (78, 76)) (h1 := zt9) rfl ?_
                  refine wp_gt (a := 2) (b := 3) rfl (by omega) (by omega) (fun b_9_9 => ?_) (fun b_9_9 => ?_)
                  · exact absurd b_9_9 (by decide)
                  · refine wp_run (k := 2) (pc1 := 14) (l1 := [(0, .ref 0), (1, .int (iN ((zTm N G 17).2))), (2, .int (iN ((zTm N G 17).1))), (3, .int (iN (2))), (4, .int (iN (16))), (5, .int (iN (17)))]) (st1 := [.int (iN (1)), .int (iN (2))]) (kr1 := (78, 76)) (h1 := zt9) rfl ?_
                    refine wp_ne (a := 2) (b := 1) rfl (by omega) (by omega) (fun b_14_10 => ?_) (fun b_14_10 => ?_)
                    · refine wp_run (k := 4) (pc1 := 28) (l1 := [(0, .ref 0), (1, .int (iN ((zTm N G 17).2))), (2, .int (iN ((zTm N G 17).1))), (3, .int (iN (2))), (4, .int (iN (1))), (5, .int (iN (1)))]) (st1 := []) (kr1 := (78, 76)) (h1 := zt9) rfl ?_
                      refine wp_run (k := 2) (pc1 := 32) (l1 := [(0, .ref 0), (1, .int (iN ((zTm N G 17).2))), (2, .int (iN ((zTm N G 17).1))), (3, .int (iN (2))), (4, .int (iN (1))), (5, .int (iN (1)))]) (st1 := [.int (iN (1)), .int (iN (1))]) (kr1 := (78, 76)) (h1 := zt9) rfl ?_
                      refine wp_gt (a := 1) (b := 1) rfl (by omega) (by omega) (fun b_32_11 => ?_) (fun b_32_11 => ?_)
                      · exact absurd b_32_11 (by decide)
                      · refine wp_run (k := 6) (pc1 := 46) (l1 := [(0, .ref 0), (1, .int (iN ((zTm N G 17).2))), (2, .int (iN ((zTm N G 17).1))), (3, .int (iN (2))), (4, .int (iN (1))), (5, .int (iN (1)))]) (st1 := [.int (iN (1)), .int (iN (2)), .ref 1, .ref 22]) (kr1 := (78, 76)) (h1 := zt9) rfl ?_
                        refine wp_call (md1 := am_m_ByRule_reckon) (As := [.ref 22, .ref 1, .int (iN (2)), .int (iN (1))]) (rest := []) (kr1 := (78, 76)) rfl (jt_rreckon (zr := 2) (zn := 1) _ (by omega) (zNm_f (ks := [22]) q_gt9 q_nm (by decide) (by decide)) q_g (by omega) (by omega)) ?_
                        rintro _ zt2 ⟨rfl, q_u2, q_c2, q_l2, q_be2⟩
                        have q_gt2 : am_fr [22] zh zt2 := am_fr_t q_gt9 q_u2
                        have y_r2 := zRu_rg q_g 2 1
                        refine wp_run (k := 2) (pc1 := 53) (l1 := [(0, .ref 0), (1, .int (iN ((zTm N G 17).2))), (2, .int (iN ((zTm N G 17).1))), (3, .int (iN (2))), (4, .int (iN (1))), (5, .int (iN (1)))]) (st1 := [.ref 22]) (kr1 := (78, 76)) (h1 := zt2) rfl ?_
                        refine wp_call (md1 := am_m_ByRule_cost) (As := [.ref 22]) (rest := []) (kr1 := (78, 76)) rfl (jg_ByRule_cost_22 _ (by omega) q_c2) ?_
                        rintro _ _ ⟨rfl, rfl⟩
                        refine wp_run (k := 1) (pc1 := 57) (l1 := [(0, .ref 0), (1, .int (iN ((zTm N G 17).2))), (2, .int (iN ((zTm N G 17).1))), (3, .int (iN (2))), (4, .int (iN (1))), (5, .int (iN (1)))]) (st1 := [.int (iN ((zTm N G 17).1)), .int (iN ((zRu N G 2 1).1))]) (kr1 := (78, 76)) (h1 := zt2) rfl ?_
                        refine wp_ge (a := (zRu N G 2 1).1) (b := (zTm N G 17).1) rfl (by omega) (by omega) (fun b_57_12 => ?_) (fun b_57_12 => ?_)
                        · refine wp_run (k := 2) (pc1 := 28) (l1 := [(0, .ref 0), (1, .int (iN ((zTm N G 17).2))), (2, .int (iN ((zTm N G 17).1))), (3, .int (iN (2))), (4, .int (iN (1))), (5, .int (iN ((1) + 1)))]) (st1 := []) (kr1 := (78, 76)) (h1 := zt2) (Eq.trans (b := (some (28, [(0, .ref 0), (1, .int (iN ((zTm N G 17).2))), (2, .int (iN ((zTm N G 17).1))), (3, .int (iN (2))), (4, .int (iN (1))), (5, .int ((iN (1)) + iN (1)))], [], (78, 76), zt2) : Option am_C)) rfl (by simp only [Int32.ofInt_add, Int32.ofInt_sub, Int32.ofInt_mul, Int32.ofInt_neg])) ?_
                          rw [show (1) + 1 = (2 : Int) from by decide]
                          refine wp_run (k := 2) (pc1 := 32) (l1 := [(0, .ref 0), (1, .int (iN ((zTm N G 17).2))), (2, .int (iN ((zTm N G 17).1))), (3, .int (iN (2))), (4, .int (iN (1))), (5, .int (iN (2)))]) (st1 := [.int (iN (1)), .int (iN (2))]) (kr1 := (78, 76)) (h1 := zt2) rfl ?_
                          refine wp_gt (a := 2) (b := 1) rfl (by omega) (by omega) (fun b_32_13 => ?_) (fun b_32_13 => ?_)
                          · refine wp_run (k := 2) (pc1 := 7) (l1 := [(0, .ref 0), (1, .int (iN ((zTm N G 17).2))), (2, .int (iN ((zTm N G 17).1))), (3, .int (iN ((2) + 1))), (4, .int (iN (1))), (5, .int (iN (2)))]) (st1 := []) (kr1 := (78, 76)) (h1 := zt2) (Eq.trans (b := (some (7, [(0, .ref 0), (1, .int (iN ((zTm N G 17).2))), (2, .int (iN ((zTm N G 17).1))), (3, .int ((iN (2)) + iN (1))), (4, .int (iN (1))), (5, .int (iN (2)))], [], (78, 76), zt2) : Option am_C)) rfl (by simp only [Int32.ofInt_add, Int32.ofInt_sub, Int32.ofInt_mul, Int32.ofInt_neg])) ?_
                            rw [show (2) + 1 = (3 : Int) from by decide]
                            refine wp_run (k := 2) (pc1 := 9) (l1 := [(0, .ref 0), (1, .int (iN ((zTm N G 17).2))), (2, .int (iN ((zTm N G 17).1))), (3, .int (iN (3))), (4, .int (iN (1))), (5, .int (iN (2)))]) (st1 := [.int (iN (3)), .int (iN (3))]) (kr1 := (78, 76)) (h1 := zt2) rfl ?_
                            refine wp_gt (a := 3) (b := 3) rfl (by omega) (by omega) (fun b_9_14 => ?_) (fun b_9_14 => ?_)
                            · exact absurd b_9_14 (by decide)
                            · refine wp_run (k := 2) (pc1 := 14) (l1 := [(0, .ref 0), (1, .int (iN ((zTm N G 17).2))), (2, .int (iN ((zTm N G 17).1))), (3, .int (iN (3))), (4, .int (iN (1))), (5, .int (iN (2)))]) (st1 := [.int (iN (1)), .int (iN (3))]) (kr1 := (78, 76)) (h1 := zt2) rfl ?_
                              refine wp_ne (a := 3) (b := 1) rfl (by omega) (by omega) (fun b_14_15 => ?_) (fun b_14_15 => ?_)
                              · refine wp_run (k := 4) (pc1 := 28) (l1 := [(0, .ref 0), (1, .int (iN ((zTm N G 17).2))), (2, .int (iN ((zTm N G 17).1))), (3, .int (iN (3))), (4, .int (iN (1))), (5, .int (iN (1)))]) (st1 := []) (kr1 := (78, 76)) (h1 := zt2) rfl ?_
                                refine wp_run (k := 2) (pc1 := 32) (l1 := [(0, .ref 0), (1, .int (iN ((zTm N G 17).2))), (2, .int (iN ((zTm N G 17).1))), (3, .int (iN (3))), (4, .int (iN (1))), (5, .int (iN (1)))]) (st1 := [.int (iN (1)), .int (iN (1))]) (kr1 := (78, 76)) (h1 := zt2) rfl ?_
                                refine wp_gt (a := 1) (b := 1) rfl (by omega) (by omega) (fun b_32_16 => ?_) (fun b_32_16 => ?_)
                                · exact absurd b_32_16 (by decide)
                                · refine wp_run (k := 6) (pc1 := 46) (l1 := [(0, .ref 0), (1, .int (iN ((zTm N G 17).2))), (2, .int (iN ((zTm N G 17).1))), (3, .int (iN (3))), (4, .int (iN (1))), (5, .int (iN (1)))]) (st1 := [.int (iN (1)), .int (iN (3)), .ref 1, .ref 22]) (kr1 := (78, 76)) (h1 := zt2) rfl ?_
                                  refine wp_call (md1 := am_m_ByRule_reckon) (As := [.ref 22, .ref 1, .int (iN (3)), .int (iN (1))]) (rest := []) (kr1 := (78, 76)) rfl (jt_rreckon (zr := 3) (zn := 1) _ (by omega) (zNm_f (ks := [22]) q_gt2 q_nm (by decide) (by decide)) q_g (by omega) (by omega)) ?_
                                  rintro _ zt3 ⟨rfl, q_u3, q_c3, q_l3, q_be3⟩
                                  have q_gt3 : am_fr [22] zh zt3 := am_fr_t q_gt2 q_u3
                                  have y_r3 := zRu_rg q_g 3 1
                                  refine wp_run (k := 2) (pc1 := 53) (l1 := [(0, .ref 0), (1, .int (iN ((zTm N G 17).2))), (2, .int (iN ((zTm N G 17).1))), (3, .int (iN (3))), (4, .int (iN (1))), (5, .int (iN (1)))]) (st1 := [.ref 22]) (kr1 := (78, 76)) (h1 := zt3) rfl ?_
                                  refine wp_call (md1 := am_m_ByRule_cost) (As := [.ref 22]) (rest := []) (kr1 := (78, 76)) rfl (jg_ByRule_cost_22 _ (by omega) q_c3) ?_
                                  rintro _ _ ⟨rfl, rfl⟩
                                  refine wp_run (k := 1) (pc1 := 57) (l1 := [(0, .ref 0), (1, .int (iN ((zTm N G 17).2))), (2, .int (iN ((zTm N G 17).1))), (3, .int (iN (3))), (4, .int (iN (1))), (5, .int (iN (1)))]) (st1 := [.int (iN ((zTm N G 17).1)), .int (iN ((zRu N G 3 1).1))]) (kr1 := (78, 76)) (h1 := zt3) rfl ?_
                                  refine wp_ge (a := (zRu N G 3 1).1) (b := (zTm N G 17).1) rfl (by omega) (by omega) (fun b_57_17 => ?_) (fun b_57_17 => ?_)
                                  · refine wp_run (k := 2) (pc1 := 28) (l1 := [(0, .ref 0), (1, .int (iN ((zTm N G 17).2))), (2, .int (iN ((zTm N G 17).1))), (3, .int (iN (3))), (4, .int (iN (1))), (5, .int (iN ((1) + 1)))]) (st1 := []) (kr1 := (78, 76)) (h1 := zt3) (Eq.trans (b := (some (28, [(0, .ref 0), (1, .int (iN ((zTm N G 17).2))), (2, .int (iN ((zTm N G 17).1))), (3, .int (iN (3))), (4, .int (iN (1))), (5, .int ((iN (1)) + iN (1)))], [], (78, 76), zt3) : Option am_C)) rfl (by simp only [Int32.ofInt_add, Int32.ofInt_sub, Int32.ofInt_mul, Int32.ofInt_neg])) ?_
                                    rw [show (1) + 1 = (2 : Int) from by decide]
                                    refine wp_run (k := 2) (pc1 := 32) (l1 := [(0, .ref 0), (1, .int (iN ((zTm N G 17).2))), (2, .int (iN ((zTm N G 17).1))), (3, .int (iN (3))), (4, .int (iN (1))), (5, .int (iN (2)))]) (st1 := [.int (iN (1)), .int (iN (2))]) (kr1 := (78, 76)) (h1 := zt3) rfl ?_
                                    refine wp_gt (a := 2) (b := 1) rfl (by omega) (by omega) (fun b_32_18 => ?_) (fun b_32_18 => ?_)
                                    · refine wp_run (k := 2) (pc1 := 7) (l1 := [(0, .ref 0), (1, .int (iN ((zTm N G 17).2))), (2, .int (iN ((zTm N G 17).1))), (3, .int (iN ((3) + 1))), (4, .int (iN (1))), (5, .int (iN (2)))]) (st1 := []) (kr1 := (78, 76)) (h1 := zt3) (Eq.trans (b := (some (7, [(0, .ref 0), (1, .int (iN ((zTm N G 17).2))), (2, .int (iN ((zTm N G 17).1))), (3, .int ((iN (3)) + iN (1))), (4, .int (iN (1))), (5, .int (iN (2)))], [], (78, 76), zt3) : Option am_C)) rfl (by simp only [Int32.ofInt_add, Int32.ofInt_sub, Int32.ofInt_mul, Int32.ofInt_neg])) ?_
                                      rw [show (3) + 1 = (4 : Int) from by decide]
                                      refine wp_run (k := 2) (pc1 := 9) (l1 := [(0, .ref 0), (1, .int (iN ((zTm N G 17).2))), (2, .int (iN ((zTm N G 17).1))), (3, .int (iN (4))), (4, .int (iN (1))), (5, .int (iN (2)))]) (st1 := [.int (iN (3)), .int (iN (4))]) (kr1 := (78, 76)) (h1 := zt3) rfl ?_
                                      refine wp_gt (a := 4) (b := 3) rfl (by omega) (by omega) (fun b_9_19 => ?_) (fun b_9_19 => ?_)
                                      · refine wp_run (k := 1) (pc1 := 98) (l1 := [(0, .ref 0), (1, .int (iN ((zTm N G 17).2))), (2, .int (iN ((zTm N G 17).1))), (3, .int (iN (4))), (4, .int (iN (1))), (5, .int (iN (2)))]) (st1 := [.int (iN ((zTm N G 17).2))]) (kr1 := (78, 76)) (h1 := zt3) rfl ?_
                                        refine wp_ret (rv := some (.int (iN ((zTm N G 17).2)))) rfl ?_
                                        have y_17 := zTm_s (N := N) (G := G) (k := 17) (r := 2) (n := 1) (x := 200) rfl (zRu_n _ _ (by decide)) (by decide)
                                        have y_18 := zTm_s (N := N) (G := G) (k := 18) (r := 3) (n := 1) (x := 300) rfl (zRu_n _ _ (by decide)) (by decide)
                                        rw [if_neg (by omega)] at y_17
                                        rw [y_17, if_neg (by (try dsimp only); omega)] at y_18
                                        exact ⟨by rw [y_18], q_gt3⟩
                                      · exact absurd b_9_19 (by decide)
                                    · exact absurd b_32_18 (by decide)
                                  · refine wp_run (k := 2) (pc1 := 64) (l1 := [(0, .ref 0), (1, .int (iN ((zTm N G 17).2))), (2, .int (iN ((zTm N G 17).1))), (3, .int (iN (3))), (4, .int (iN (1))), (5, .int (iN (1)))]) (st1 := [.ref 22]) (kr1 := (78, 76)) (h1 := zt3) rfl ?_
                                    refine wp_call (md1 := am_m_ByRule_cost) (As := [.ref 22]) (rest := []) (kr1 := (78, 76)) rfl (jg_ByRule_cost_22 _ (by omega) q_c3) ?_
                                    rintro _ _ ⟨rfl, rfl⟩
                                    refine wp_run (k := 6) (pc1 := 74) (l1 := [(0, .ref 0), (1, .int (iN ((zTm N G 17).2))), (2, .int (iN ((zRu N G 3 1).1))), (3, .int (iN (3))), (4, .int (iN (1))), (5, .int (iN (1)))]) (st1 := [.int (iN (1)), .int (iN (3)), .int (iN ((100) * (3)))]) (kr1 := (78, 76)) (h1 := zt3) (Eq.trans (b := (some (74, [(0, .ref 0), (1, .int (iN ((zTm N G 17).2))), (2, .int (iN ((zRu N G 3 1).1))), (3, .int (iN (3))), (4, .int (iN (1))), (5, .int (iN (1)))], [.int (iN (1)), .int (iN (3)), .int ((iN (100)) * (iN (3)))], (78, 76), zt3) : Option am_C)) rfl (by simp only [Int32.ofInt_add, Int32.ofInt_sub, Int32.ofInt_mul, Int32.ofInt_neg])) ?_
                                    refine wp_ne (a := 3) (b := 1) rfl (by omega) (by omega) (fun b_74_20 => ?_) (fun b_74_20 => ?_)
                                    · refine wp_run (k := 3) (pc1 := 85) (l1 := [(0, .ref 0), (1, .int (iN (((100) * (3)) + (0)))), (2, .int (iN ((zRu N G 3 1).1))), (3, .int (iN (3))), (4, .int (iN (1))), (5, .int (iN (1)))]) (st1 := []) (kr1 := (78, 76)) (h1 := zt3) (Eq.trans (b := (some (85, [(0, .ref 0), (1, .int ((iN ((100) * (3))) + (iN (0)))), (2, .int (iN ((zRu N G 3 1).1))), (3, .int (iN (3))), (4, .int (iN (1))), (5, .int (iN (1)))], [], (78, 76), zt3) : Option am_C)) rfl (by simp only [Int32.ofInt_add, Int32.ofInt_sub, Int32.ofInt_mul, Int32.ofInt_neg])) ?_
                                      rw [show ((100) * (3)) + (0) = (300 : Int) from by decide]
                                      refine wp_run (k := 2) (pc1 := 28) (l1 := [(0, .ref 0), (1, .int (iN (300))), (2, .int (iN ((zRu N G 3 1).1))), (3, .int (iN (3))), (4, .int (iN (1))), (5, .int (iN ((1) + 1)))]) (st1 := []) (kr1 := (78, 76)) (h1 := zt3) (Eq.trans (b := (some (28, [(0, .ref 0), (1, .int (iN (300))), (2, .int (iN ((zRu N G 3 1).1))), (3, .int (iN (3))), (4, .int (iN (1))), (5, .int ((iN (1)) + iN (1)))], [], (78, 76), zt3) : Option am_C)) rfl (by simp only [Int32.ofInt_add, Int32.ofInt_sub, Int32.ofInt_mul, Int32.ofInt_neg])) ?_
                                      rw [show (1) + 1 = (2 : Int) from by decide]
                                      refine wp_run (k := 2) (pc1 := 32) (l1 := [(0, .ref 0), (1, .int (iN (300))), (2, .int (iN ((zRu N G 3 1).1))), (3, .int (iN (3))), (4, .int (iN (1))), (5, .int (iN (2)))]) (st1 := [.int (iN (1)), .int (iN (2))]) (kr1 := (78, 76)) (h1 := zt3) rfl ?_
                                      refine wp_gt (a := 2) (b := 1) rfl (by omega) (by omega) (fun b_32_21 => ?_) (fun b_32_21 => ?_)
                                      · refine wp_run (k := 2) (pc1 := 7) (l1 := [(0, .ref 0), (1, .int (iN (300))), (2, .int (iN ((zRu N G 3 1).1))), (3, .int (iN ((3) + 1))), (4, .int (iN (1))), (5, .int (iN (2)))]) (st1 := []) (kr1 := (78, 76)) (h1 := zt3) (Eq.trans (b := (some (7, [(0, .ref 0), (1, .int (iN (300))), (2, .int (iN ((zRu N G 3 1).1))), (3, .int ((iN (3)) + iN (1))), (4, .int (iN (1))), (5, .int (iN (2)))], [], (78, 76), zt3) : Option am_C)) rfl (by simp only [Int32.ofInt_add, Int32.ofInt_sub, Int32.ofInt_mul, Int32.ofInt_neg])) ?_
                                        rw [show (3) + 1 = (4 : Int) from by decide]
                                        refine wp_run (k := 2) (pc1 := 9) (l1 := [(0, .ref 0), (1, .int (iN (300))), (2, .int (iN ((zRu N G 3 1).1))), (3, .int (iN (4))), (4, .int (iN (1))), (5, .int (iN (2)))]) (st1 := [.int (iN (3)), .int (iN (4))]) (kr1 := (78, 76)) (h1 := zt3) rfl ?_
                                        refine wp_gt (a := 4) (b := 3) rfl (by omega) (by omega) (fun b_9_22 => ?_) (fun b_9_22 => ?_)
                                        · refine wp_run (k := 1) (pc1 := 98) (l1 := [(0, .ref 0), (1, .int (iN (300))), (2, .int (iN ((zRu N G 3 1).1))), (3, .int (iN (4))), (4, .int (iN (1))), (5, .int (iN (2)))]) (st1 := [.int (iN (300))]) (kr1 := (78, 76)) (h1 := zt3) rfl ?_
                                          refine wp_ret (rv := some (.int (iN (300)))) rfl ?_
                                          have y_17 := zTm_s (N := N) (G := G) (k := 17) (r := 2) (n := 1) (x := 200) rfl (zRu_n _ _ (by decide)) (by decide)
                                          have y_18 := zTm_s (N := N) (G := G) (k := 18) (r := 3) (n := 1) (x := 300) rfl (zRu_n _ _ (by decide)) (by decide)
                                          rw [if_neg (by omega)] at y_17
                                          rw [y_17, if_pos (by (try dsimp only); omega)] at y_18
                                          exact ⟨by rw [y_18], q_gt3⟩
                                        · exact absurd b_9_22 (by decide)
                                      · exact absurd b_32_21 (by decide)
                                    · exact absurd b_74_20 (by decide)
                              · exact absurd b_14_15 (by decide)
                          · exact absurd b_32_13 (by decide)
                        · refine wp_run (k := 2) (pc1 := 64) (l1 := [(0, .ref 0), (1, .int (iN ((zTm N G 17).2))), (2, .int (iN ((zTm N G 17).1))), (3, .int (iN (2))), (4, .int (iN (1))), (5, .int (iN (1)))]) (st1 := [.ref 22]) (kr1 := (78, 76)) (h1 := zt2) rfl ?_
                          refine wp_call (md1 := am_m_ByRule_cost) (As := [.ref 22]) (rest := []) (kr1 := (78, 76)) rfl (jg_ByRule_cost_22 _ (by omega) q_c2) ?_
                          rintro _ _ ⟨rfl, rfl⟩
                          refine wp_run (k := 6) (pc1 := 74) (l1 := [(0, .ref 0), (1, .int (iN ((zTm N G 17).2))), (2, .int (iN ((zRu N G 2 1).1))), (3, .int (iN (2))), (4, .int (iN (1))), (5, .int (iN (1)))]) (st1 := [.int (iN (1)), .int (iN (2)), .int (iN ((100) * (2)))]) (kr1 := (78, 76)) (h1 := zt2) (Eq.trans (b := (some (74, [(0, .ref 0), (1, .int (iN ((zTm N G 17).2))), (2, .int (iN ((zRu N G 2 1).1))), (3, .int (iN (2))), (4, .int (iN (1))), (5, .int (iN (1)))], [.int (iN (1)), .int (iN (2)), .int ((iN (100)) * (iN (2)))], (78, 76), zt2) : Option am_C)) rfl (by simp only [Int32.ofInt_add, Int32.ofInt_sub, Int32.ofInt_mul, Int32.ofInt_neg])) ?_
                          refine wp_ne (a := 2) (b := 1) rfl (by omega) (by omega) (fun b_74_23 => ?_) (fun b_74_23 => ?_)
                          · refine wp_run (k := 3) (pc1 := 85) (l1 := [(0, .ref 0), (1, .int (iN (((100) * (2)) + (0)))), (2, .int (iN ((zRu N G 2 1).1))), (3, .int (iN (2))), (4, .int (iN (1))), (5, .int (iN (1)))]) (st1 := []) (kr1 := (78, 76)) (h1 := zt2) (Eq.trans (b := (some (85, [(0, .ref 0), (1, .int ((iN ((100) * (2))) + (iN (0)))), (2, .int (iN ((zRu N G 2 1).1))), (3, .int (iN (2))), (4, .int (iN (1))), (5, .int (iN (1)))], [], (78, 76), zt2) : Option am_C)) rfl (by simp only [Int32.ofInt_add, Int32.ofInt_sub, Int32.ofInt_mul, Int32.ofInt_neg])) ?_
                            rw [show ((100) * (2)) + (0) = (200 : Int) from by decide]
                            refine wp_run (k := 2) (pc1 := 28) (l1 := [(0, .ref 0), (1, .int (iN (200))), (2, .int (iN ((zRu N G 2 1).1))), (3, .int (iN (2))), (4, .int (iN (1))), (5, .int (iN ((1) + 1)))]) (st1 := []) (kr1 := (78, 76)) (h1 := zt2) (Eq.trans (b := (some (28, [(0, .ref 0), (1, .int (iN (200))), (2, .int (iN ((zRu N G 2 1).1))), (3, .int (iN (2))), (4, .int (iN (1))), (5, .int ((iN (1)) + iN (1)))], [], (78, 76), zt2) : Option am_C)) rfl (by simp only [Int32.ofInt_add, Int32.ofInt_sub, Int32.ofInt_mul, Int32.ofInt_neg])) ?_
                            rw [show (1) + 1 = (2 : Int) from by decide]
                            refine wp_run (k := 2) (pc1 := 32) (l1 := [(0, .ref 0), (1, .int (iN (200))), (2, .int (iN ((zRu N G 2 1).1))), (3, .int (iN (2))), (4, .int (iN (1))), (5, .int (iN (2)))]) (st1 := [.int (iN (1)), .int (iN (2))]) (kr1 := (78, 76)) (h1 := zt2) rfl ?_
                            refine wp_gt (a := 2) (b := 1) rfl (by omega) (by omega) (fun b_32_24 => ?_) (fun b_32_24 => ?_)
                            · refine wp_run (k := 2) (pc1 := 7) (l1 := [(0, .ref 0), (1, .int (iN (200))), (2, .int (iN ((zRu N G 2 1).1))), (3, .int (iN ((2) + 1))), (4, .int (iN (1))), (5, .int (iN (2)))]) (st1 := []) (kr1 := (78, 76)) (h1 := zt2) (Eq.trans (b := (some (7, [(0, .ref 0), (1, .int (iN (200))), (2, .int (iN ((zRu N G 2 1).1))), (3, .int ((iN (2)) + iN (1))), (4, .int (iN (1))), (5, .int (iN (2)))], [], (78, 76), zt2) : Option am_C)) rfl (by simp only [Int32.ofInt_add, Int32.ofInt_sub, Int32.ofInt_mul, Int32.ofInt_neg])) ?_
                              rw [show (2) + 1 = (3 : Int) from by decide]
                              refine wp_run (k := 2) (pc1 := 9) (l1 := [(0, .ref 0), (1, .int (iN (200))), (2, .int (iN ((zRu N G 2 1).1))), (3, .int (iN (3))), (4, .int (iN (1))), (5, .int (iN (2)))]) (st1 := [.int (iN (3)), .int (iN (3))]) (kr1 := (78, 76)) (h1 := zt2) rfl ?_
                              refine wp_gt (a := 3) (b := 3) rfl (by omega) (by omega) (fun b_9_25 => ?_) (fun b_9_25 => ?_)
                              · exact absurd b_9_25 (by decide)
                              · refine wp_run (k := 2) (pc1 := 14) (l1 := [(0, .ref 0), (1, .int (iN (200))), (2, .int (iN ((zRu N G 2 1).1))), (3, .int (iN (3))), (4, .int (iN (1))), (5, .int (iN (2)))]) (st1 := [.int (iN (1)), .int (iN (3))]) (kr1 := (78, 76)) (h1 := zt2) rfl ?_
                                refine wp_ne (a := 3) (b := 1) rfl (by omega) (by omega) (fun b_14_26 => ?_) (fun b_14_26 => ?_)
                                · refine wp_run (k := 4) (pc1 := 28) (l1 := [(0, .ref 0), (1, .int (iN (200))), (2, .int (iN ((zRu N G 2 1).1))), (3, .int (iN (3))), (4, .int (iN (1))), (5, .int (iN (1)))]) (st1 := []) (kr1 := (78, 76)) (h1 := zt2) rfl ?_
                                  refine wp_run (k := 2) (pc1 := 32) (l1 := [(0, .ref 0), (1, .int (iN (200))), (2, .int (iN ((zRu N G 2 1).1))), (3, .int (iN (3))), (4, .int (iN (1))), (5, .int (iN (1)))]) (st1 := [.int (iN (1)), .int (iN (1))]) (kr1 := (78, 76)) (h1 := zt2) rfl ?_
                                  refine wp_gt (a := 1) (b := 1) rfl (by omega) (by omega) (fun b_32_27 => ?_) (fun b_32_27 => ?_)
                                  · exact absurd b_32_27 (by decide)
                                  · refine wp_run (k := 6) (pc1 := 46) (l1 := [(0, .ref 0), (1, .int (iN (200))), (2, .int (iN ((zRu N G 2 1).1))), (3, .int (iN (3))), (4, .int (iN (1))), (5, .int (iN (1)))]) (st1 := [.int (iN (1)), .int (iN (3)), .ref 1, .ref 22]) (kr1 := (78, 76)) (h1 := zt2) rfl ?_
                                    refine wp_call (md1 := am_m_ByRule_reckon) (As := [.ref 22, .ref 1, .int (iN (3)), .int (iN (1))]) (rest := []) (kr1 := (78, 76)) rfl (jt_rreckon (zr := 3) (zn := 1) _ (by omega) (zNm_f (ks := [22]) q_gt2 q_nm (by decide) (by decide)) q_g (by omega) (by omega)) ?_
                                    rintro _ zt4 ⟨rfl, q_u4, q_c4, q_l4, q_be4⟩
                                    have q_gt4 : am_fr [22] zh zt4 := am_fr_t q_gt2 q_u4
                                    have y_r4 := zRu_rg q_g 3 1
                                    refine wp_run (k := 2) (pc1 := 53) (l1 := [(0, .ref 0), (1, .int (iN (200))), (2, .int (iN ((zRu N G 2 1).1))), (3, .int (iN (3))), (4, .int (iN (1))), (5, .int (iN (1)))]) (st1 := [.ref 22]) (kr1 := (78, 76)) (h1 := zt4) rfl ?_
                                    refine wp_call (md1 := am_m_ByRule_cost) (As := [.ref 22]) (rest := []) (kr1 := (78, 76)) rfl (jg_ByRule_cost_22 _ (by omega) q_c4) ?_
                                    rintro _ _ ⟨rfl, rfl⟩
                                    refine wp_run (k := 1) (pc1 := 57) (l1 := [(0, .ref 0), (1, .int (iN (200))), (2, .int (iN ((zRu N G 2 1).1))), (3, .int (iN (3))), (4, .int (iN (1))), (5, .int (iN (1)))]) (st1 := [.int (iN ((zRu N G 2 1).1)), .int (iN ((zRu N G 3 1).1))]) (kr1 := (78, 76)) (h1 := zt4) rfl ?_
                                    refine wp_ge (a := (zRu N G 3 1).1) (b := (zRu N G 2 1).1) rfl (by omega) (by omega) (fun b_57_28 => ?_) (fun b_57_28 => ?_)
                                    · refine wp_run (k := 2) (pc1 := 28) (l1 := [(0, .ref 0), (1, .int (iN (200))), (2, .int (iN ((zRu N G 2 1).1))), (3, .int (iN (3))), (4, .int (iN (1))), (5, .int (iN ((1) + 1)))]) (st1 := []) (kr1 := (78, 76)) (h1 := zt4) (Eq.trans (b := (some (28, [(0, .ref 0), (1, .int (iN (200))), (2, .int (iN ((zRu N G 2 1).1))), (3, .int (iN (3))), (4, .int (iN (1))), (5, .int ((iN (1)) + iN (1)))], [], (78, 76), zt4) : Option am_C)) rfl (by simp only [Int32.ofInt_add, Int32.ofInt_sub, Int32.ofInt_mul, Int32.ofInt_neg])) ?_
                                      rw [show (1) + 1 = (2 : Int) from by decide]
                                      refine wp_run (k := 2) (pc1 := 32) (l1 := [(0, .ref 0), (1, .int (iN (200))), (2, .int (iN ((zRu N G 2 1).1))), (3, .int (iN (3))), (4, .int (iN (1))), (5, .int (iN (2)))]) (st1 := [.int (iN (1)), .int (iN (2))]) (kr1 := (78, 76)) (h1 := zt4) rfl ?_
                                      refine wp_gt (a := 2) (b := 1) rfl (by omega) (by omega) (fun b_32_29 => ?_) (fun b_32_29 => ?_)
                                      · refine wp_run (k := 2) (pc1 := 7) (l1 := [(0, .ref 0), (1, .int (iN (200))), (2, .int (iN ((zRu N G 2 1).1))), (3, .int (iN ((3) + 1))), (4, .int (iN (1))), (5, .int (iN (2)))]) (st1 := []) (kr1 := (78, 76)) (h1 := zt4) (Eq.trans (b := (some (7, [(0, .ref 0), (1, .int (iN (200))), (2, .int (iN ((zRu N G 2 1).1))), (3, .int ((iN (3)) + iN (1))), (4, .int (iN (1))), (5, .int (iN (2)))], [], (78, 76), zt4) : Option am_C)) rfl (by simp only [Int32.ofInt_add, Int32.ofInt_sub, Int32.ofInt_mul, Int32.ofInt_neg])) ?_
                                        rw [show (3) + 1 = (4 : Int) from by decide]
                                        refine wp_run (k := 2) (pc1 := 9) (l1 := [(0, .ref 0), (1, .int (iN (200))), (2, .int (iN ((zRu N G 2 1).1))), (3, .int (iN (4))), (4, .int (iN (1))), (5, .int (iN (2)))]) (st1 := [.int (iN (3)), .int (iN (4))]) (kr1 := (78, 76)) (h1 := zt4) rfl ?_
                                        refine wp_gt (a := 4) (b := 3) rfl (by omega) (by omega) (fun b_9_30 => ?_) (fun b_9_30 => ?_)
                                        · refine wp_run (k := 1) (pc1 := 98) (l1 := [(0, .ref 0), (1, .int (iN (200))), (2, .int (iN ((zRu N G 2 1).1))), (3, .int (iN (4))), (4, .int (iN (1))), (5, .int (iN (2)))]) (st1 := [.int (iN (200))]) (kr1 := (78, 76)) (h1 := zt4) rfl ?_
                                          refine wp_ret (rv := some (.int (iN (200)))) rfl ?_
                                          have y_17 := zTm_s (N := N) (G := G) (k := 17) (r := 2) (n := 1) (x := 200) rfl (zRu_n _ _ (by decide)) (by decide)
                                          have y_18 := zTm_s (N := N) (G := G) (k := 18) (r := 3) (n := 1) (x := 300) rfl (zRu_n _ _ (by decide)) (by decide)
                                          rw [if_pos (by omega)] at y_17
                                          rw [y_17, if_neg (by (try dsimp only); omega)] at y_18
                                          exact ⟨by rw [y_18], q_gt4⟩
                                        · exact absurd b_9_30 (by decide)
                                      · exact absurd b_32_29 (by decide)
                                    · refine wp_run (k := 2) (pc1 := 64) (l1 := [(0, .ref 0), (1, .int (iN (200))), (2, .int (iN ((zRu N G 2 1).1))), (3, .int (iN (3))), (4, .int (iN (1))), (5, .int (iN (1)))]) (st1 := [.ref 22]) (kr1 := (78, 76)) (h1 := zt4) rfl ?_
                                      refine wp_call (md1 := am_m_ByRule_cost) (As := [.ref 22]) (rest := []) (kr1 := (78, 76)) rfl (jg_ByRule_cost_22 _ (by omega) q_c4) ?_
                                      rintro _ _ ⟨rfl, rfl⟩
                                      refine wp_run (k := 6) (pc1 := 74) (l1 := [(0, .ref 0), (1, .int (iN (200))), (2, .int (iN ((zRu N G 3 1).1))), (3, .int (iN (3))), (4, .int (iN (1))), (5, .int (iN (1)))]) (st1 := [.int (iN (1)), .int (iN (3)), .int (iN ((100) * (3)))]) (kr1 := (78, 76)) (h1 := zt4) (Eq.trans (b := (some (74, [(0, .ref 0), (1, .int (iN (200))), (2, .int (iN ((zRu N G 3 1).1))), (3, .int (iN (3))), (4, .int (iN (1))), (5, .int (iN (1)))], [.int (iN (1)), .int (iN (3)), .int ((iN (100)) * (iN (3)))], (78, 76), zt4) : Option am_C)) rfl (by simp only [Int32.ofInt_add, Int32.ofInt_sub, Int32.ofInt_mul, Int32.ofInt_neg])) ?_
                                      refine wp_ne (a := 3) (b := 1) rfl (by omega) (by omega) (fun b_74_31 => ?_) (fun b_74_31 => ?_)
                                      · refine wp_run (k := 3) (pc1 := 85) (l1 := [(0, .ref 0), (1, .int (iN (((100) * (3)) + (0)))), (2, .int (iN ((zRu N G 3 1).1))), (3, .int (iN (3))), (4, .int (iN (1))), (5, .int (iN (1)))]) (st1 := []) (kr1 := (78, 76)) (h1 := zt4) (Eq.trans (b := (some (85, [(0, .ref 0), (1, .int ((iN ((100) * (3))) + (iN (0)))), (2, .int (iN ((zRu N G 3 1).1))), (3, .int (iN (3))), (4, .int (iN (1))), (5, .int (iN (1)))], [], (78, 76), zt4) : Option am_C)) rfl (by simp only [Int32.ofInt_add, Int32.ofInt_sub, Int32.ofInt_mul, Int32.ofInt_neg])) ?_
                                        rw [show ((100) * (3)) + (0) = (300 : Int) from by decide]
                                        refine wp_run (k := 2) (pc1 := 28) (l1 := [(0, .ref 0), (1, .int (iN (300))), (2, .int (iN ((zRu N G 3 1).1))), (3, .int (iN (3))), (4, .int (iN (1))), (5, .int (iN ((1) + 1)))]) (st1 := []) (kr1 := (78, 76)) (h1 := zt4) (Eq.trans (b := (some (28, [(0, .ref 0), (1, .int (iN (300))), (2, .int (iN ((zRu N G 3 1).1))), (3, .int (iN (3))), (4, .int (iN (1))), (5, .int ((iN (1)) + iN (1)))], [], (78, 76), zt4) : Option am_C)) rfl (by simp only [Int32.ofInt_add, Int32.ofInt_sub, Int32.ofInt_mul, Int32.ofInt_neg])) ?_
                                        rw [show (1) + 1 = (2 : Int) from by decide]
                                        refine wp_run (k := 2) (pc1 := 32) (l1 := [(0, .ref 0), (1, .int (iN (300))), (2, .int (iN ((zRu N G 3 1).1))), (3, .int (iN (3))), (4, .int (iN (1))), (5, .int (iN (2)))]) (st1 := [.int (iN (1)), .int (iN (2))]) (kr1 := (78, 76)) (h1 := zt4) rfl ?_
                                        refine wp_gt (a := 2) (b := 1) rfl (by omega) (by omega) (fun b_32_32 => ?_) (fun b_32_32 => ?_)
                                        · refine wp_run (k := 2) (pc1 := 7) (l1 := [(0, .ref 0), (1, .int (iN (300))), (2, .int (iN ((zRu N G 3 1).1))), (3, .int (iN ((3) + 1))), (4, .int (iN (1))), (5, .int (iN (2)))]) (st1 := []) (kr1 := (78, 76)) (h1 := zt4) (Eq.trans (b := (some (7, [(0, .ref 0), (1, .int (iN (300))), (2, .int (iN ((zRu N G 3 1).1))), (3, .int ((iN (3)) + iN (1))), (4, .int (iN (1))), (5, .int (iN (2)))], [], (78, 76), zt4) : Option am_C)) rfl (by simp only [Int32.ofInt_add, Int32.ofInt_sub, Int32.ofInt_mul, Int32.ofInt_neg])) ?_
                                          rw [show (3) + 1 = (4 : Int) from by decide]
                                          refine wp_run (k := 2) (pc1 := 9) (l1 := [(0, .ref 0), (1, .int (iN (300))), (2, .int (iN ((zRu N G 3 1).1))), (3, .int (iN (4))), (4, .int (iN (1))), (5, .int (iN (2)))]) (st1 := [.int (iN (3)), .int (iN (4))]) (kr1 := (78, 76)) (h1 := zt4) rfl ?_
                                          refine wp_gt (a := 4) (b := 3) rfl (by omega) (by omega) (fun b_9_33 => ?_) (fun b_9_33 => ?_)
                                          · refine wp_run (k := 1) (pc1 := 98) (l1 := [(0, .ref 0), (1, .int (iN (300))), (2, .int (iN ((zRu N G 3 1).1))), (3, .int (iN (4))), (4, .int (iN (1))), (5, .int (iN (2)))]) (st1 := [.int (iN (300))]) (kr1 := (78, 76)) (h1 := zt4) rfl ?_
                                            refine wp_ret (rv := some (.int (iN (300)))) rfl ?_
                                            have y_17 := zTm_s (N := N) (G := G) (k := 17) (r := 2) (n := 1) (x := 200) rfl (zRu_n _ _ (by decide)) (by decide)
                                            have y_18 := zTm_s (N := N) (G := G) (k := 18) (r := 3) (n := 1) (x := 300) rfl (zRu_n _ _ (by decide)) (by decide)
                                            rw [if_pos (by omega)] at y_17
                                            rw [y_17, if_pos (by (try dsimp only); omega)] at y_18
                                            exact ⟨by rw [y_18], q_gt4⟩
                                          · exact absurd b_9_33 (by decide)
                                        · exact absurd b_32_32 (by decide)
                                      · exact absurd b_74_31 (by decide)
                                · exact absurd b_14_26 (by decide)
                            · exact absurd b_32_24 (by decide)
                          · exact absurd b_74_23 (by decide)
                    · exact absurd b_14_10 (by decide)
            · exact absurd b_32_6 (by decide)
          · exact absurd b_74 (by decide)
    · exact absurd b_14 (by decide)
set_option maxRecDepth 20000 in
set_option maxHeartbeats 4000000 in
theorem jL_judged (zd : Nat) (q_d : 4 ≤ zd) {zh : am_H} {N : Int} {G : Int → Int → Int} {S T : Int} {B : Int → Int} {zw : Int} (q_nm : zNm (zh.1 1) (zh.1 2) N G S T) (q_g : zGk N G S T) (q_hd : zHd (zh.1 24) B 16) (q_hk : zHk N B) (q_zwr : -2147483648 ≤ zw ∧ zw < 2147483648) : am_wp zd am_m_Lp_judged 0 [(0, .ref 0), (1, .int (iN (zw)))] [] (78, 76) zh (78, 76) (fun rv h' => rv = some (.int (iN (zVju N G S T B zw))) ∧ zh = h') := by
  obtain ⟨zd, rfl⟩ : ∃ y_e, zd = y_e + 4 := ⟨zd - 4, by omega⟩
  have q_N := q_g.1
  refine wp_run (k := 1) (pc1 := 1) (l1 := [(0, .ref 0), (1, .int (iN (zw)))]) (st1 := [.int (iN (zw))]) (kr1 := (78, 76)) (h1 := zh) rfl ?_
  refine wp_lt0 (a := zw) rfl (by omega) (fun b_1 => ?_) (fun b_1 => ?_)
  · refine wp_run (k := 1) (pc1 := 12) (l1 := [(0, .ref 0), (1, .int (iN (zw)))]) (st1 := [.int (iN (-10000))]) (kr1 := (78, 76)) (h1 := zh) rfl ?_
    refine wp_ret (rv := some (.int (iN (-10000)))) rfl ?_
    refine ⟨?_, rfl⟩
    rw [show zVju N G S T B zw = -10000 from ?_]
    unfold zVju
    (repeat' split) <;> first | rfl | omega | contradiction | (exfalso; omega) | (exfalso; rename_i y_x; exact absurd y_x.2.1 (by assumption)) | (exfalso; rename_i y_x; exact y_x ⟨by omega, by assumption, by omega⟩)
  · refine wp_run (k := 2) (pc1 := 6) (l1 := [(0, .ref 0), (1, .int (iN (zw)))]) (st1 := [.int (iN (2)), .int (iN (zw))]) (kr1 := (78, 76)) (h1 := zh) rfl ?_
    refine wp_le (a := zw) (b := 2) rfl (by omega) (by omega) (fun b_6 => ?_) (fun b_6 => ?_)
    · refine wp_run (k := 1) (pc1 := 14) (l1 := [(0, .ref 0), (1, .int (iN (zw)))]) (st1 := [.int (iN (zw))]) (kr1 := (78, 76)) (h1 := zh) rfl ?_
      refine wp_ne0 (a := zw) rfl (by omega) (fun b_14 => ?_) (fun b_14 => ?_)
      · refine wp_run (k := 2) (pc1 := 31) (l1 := [(0, .ref 0), (1, .int (iN (zw)))]) (st1 := [.int (iN (1)), .int (iN (zw))]) (kr1 := (78, 76)) (h1 := zh) rfl ?_
        refine wp_ne (a := zw) (b := 1) rfl (by omega) (by omega) (fun b_31 => ?_) (fun b_31 => ?_)
        · refine wp_run (k := 4) (pc1 := 56) (l1 := [(0, .ref 0), (1, .int (iN (zw)))]) (st1 := [.ref 1, .ref 23]) (kr1 := (78, 76)) (h1 := zh) rfl ?_
          refine wp_call (md1 := am_m_ByHand_stockBehind) (As := [.ref 23, .ref 1]) (rest := []) (kr1 := (78, 76)) rfl (jt_hbehind _ (by omega) q_nm q_g q_hd q_hk) ?_
          rintro _ _ ⟨rfl, rfl⟩
          refine wp_ret (rv := some (.int (iN (zSt G B (N - 1))))) rfl ?_
          refine ⟨?_, rfl⟩
          rw [show zVju N G S T B zw = zSt G B (N - 1) from ?_]
          unfold zVju
          (repeat' split) <;> first | rfl | omega | contradiction | (exfalso; omega) | (exfalso; rename_i y_x; exact absurd y_x.2.1 (by assumption)) | (exfalso; rename_i y_x; exact y_x ⟨by omega, by assumption, by omega⟩)
        · refine wp_run (k := 4) (pc1 := 42) (l1 := [(0, .ref 0), (1, .int (iN (zw)))]) (st1 := [.ref 1, .ref 23]) (kr1 := (78, 76)) (h1 := zh) rfl ?_
          refine wp_call (md1 := am_m_ByHand_wrong) (As := [.ref 23, .ref 1]) (rest := []) (kr1 := (78, 76)) rfl (jt_hwrong _ (by omega) q_nm q_g q_hd q_hk) ?_
          rintro _ _ ⟨zv, rfl, q_v, rfl⟩
          rw [zWv_e q_v]
          refine wp_run (k := 1) (pc1 := 59) (l1 := [(0, .ref 0), (1, .int (iN (zw)))]) (st1 := [.int (iN (zWv N (zWr N G S T B)))]) (kr1 := (78, 76)) (h1 := zh) rfl ?_
          refine wp_ret (rv := some (.int (iN (zWv N (zWr N G S T B))))) rfl ?_
          refine ⟨?_, rfl⟩
          rw [show zVju N G S T B zw = zWv N (zWr N G S T B) from ?_]
          unfold zVju
          (repeat' split) <;> first | rfl | omega | contradiction | (exfalso; omega) | (exfalso; rename_i y_x; exact absurd y_x.2.1 (by assumption)) | (exfalso; rename_i y_x; exact y_x ⟨by omega, by assumption, by omega⟩)
      · refine wp_run (k := 4) (pc1 := 25) (l1 := [(0, .ref 0), (1, .int (iN (zw)))]) (st1 := [.ref 1, .ref 23]) (kr1 := (78, 76)) (h1 := zh) rfl ?_
        refine wp_call (md1 := am_m_ByHand_cost) (As := [.ref 23, .ref 1]) (rest := []) (kr1 := (78, 76)) rfl (jt_hcost _ (by omega) q_nm q_g q_hd q_hk) ?_
        rintro _ _ ⟨rfl, rfl⟩
        refine wp_ret (rv := some (.int (iN (zHi G B N)))) rfl ?_
        refine ⟨?_, rfl⟩
        rw [show zVju N G S T B zw = zHi G B N from ?_]
        unfold zVju
        (repeat' split) <;> first | rfl | omega | contradiction | (exfalso; omega) | (exfalso; rename_i y_x; exact absurd y_x.2.1 (by assumption)) | (exfalso; rename_i y_x; exact y_x ⟨by omega, by assumption, by omega⟩)
    · refine wp_run (k := 1) (pc1 := 12) (l1 := [(0, .ref 0), (1, .int (iN (zw)))]) (st1 := [.int (iN (-10000))]) (kr1 := (78, 76)) (h1 := zh) rfl ?_
      refine wp_ret (rv := some (.int (iN (-10000)))) rfl ?_
      refine ⟨?_, rfl⟩
      rw [show zVju N G S T B zw = -10000 from ?_]
      unfold zVju
      (repeat' split) <;> first | rfl | omega | contradiction | (exfalso; omega) | (exfalso; rename_i y_x; exact absurd y_x.2.1 (by assumption)) | (exfalso; rename_i y_x; exact y_x ⟨by omega, by assumption, by omega⟩)
set_option maxRecDepth 20000 in
set_option maxHeartbeats 4000000 in
theorem jL_hand (zd : Nat) (q_d : 3 ≤ zd) {zh : am_H} {N : Int} {G : Int → Int → Int} {S T : Int} {B : Int → Int} {zp zv : Int} (q_nm : zNm (zh.1 1) (zh.1 2) N G S T) (q_g : zGk N G S T) (q_hd : zHd (zh.1 24) B 16) (q_zpr : -2147483648 ≤ zp ∧ zp < 2147483648) (q_zvr : -2147483648 ≤ zv ∧ zv < 2147483648) : am_wp zd am_m_Lp_hand 0 [(0, .ref 0), (1, .int (iN (zp))), (2, .int (iN (zv)))] [] (78, 76) zh (78, 76) (fun rv h' => ((0 ≤ zp ∧ zp < N ∧ 0 ≤ zv ∧ zv ≤ 999) → rv = some (.int (iN (B zp))) ∧ am_row zh 24 (zUp (zh.1 24) zp.toNat (iN zv)) = h') ∧ (¬ (0 ≤ zp ∧ zp < N ∧ 0 ≤ zv ∧ zv ≤ 999) → rv = some (.int (iN (-1))) ∧ zh = h')) := by
  obtain ⟨zd, rfl⟩ : ∃ y_e, zd = y_e + 3 := ⟨zd - 3, by omega⟩
  have q_N := q_g.1
  refine wp_run (k := 3) (pc1 := 5) (l1 := [(0, .ref 0), (1, .int (iN (zp))), (2, .int (iN (zv)))]) (st1 := [.int (iN (zp)), .ref 1]) (kr1 := (78, 76)) (h1 := zh) rfl ?_
  refine wp_call (md1 := am_m_Numbers_has) (As := [.ref 1, .int (iN (zp))]) (rest := []) (kr1 := (78, 76)) rfl (jt_has_1 _ (by omega) q_nm q_g (zp := zp) (by omega)) ?_
  rintro _ _ ⟨rfl, rfl⟩
  refine wp_eqb rfl (fun b_8 => ?_) (fun b_8 => ?_)
  · refine wp_run (k := 1) (pc1 := 23) (l1 := [(0, .ref 0), (1, .int (iN (zp))), (2, .int (iN (zv)))]) (st1 := [.int (iN (-1))]) (kr1 := (78, 76)) (h1 := zh) rfl ?_
    refine wp_ret (rv := some (.int (iN (-1)))) rfl ?_
    exact ⟨fun y => by omega, fun _ => ⟨rfl, rfl⟩⟩
  · refine wp_run (k := 1) (pc1 := 12) (l1 := [(0, .ref 0), (1, .int (iN (zp))), (2, .int (iN (zv)))]) (st1 := [.int (iN (zv))]) (kr1 := (78, 76)) (h1 := zh) rfl ?_
    refine wp_lt0 (a := zv) rfl (by omega) (fun b_12 => ?_) (fun b_12 => ?_)
    · refine wp_run (k := 1) (pc1 := 23) (l1 := [(0, .ref 0), (1, .int (iN (zp))), (2, .int (iN (zv)))]) (st1 := [.int (iN (-1))]) (kr1 := (78, 76)) (h1 := zh) rfl ?_
      refine wp_ret (rv := some (.int (iN (-1)))) rfl ?_
      exact ⟨fun y => by omega, fun _ => ⟨rfl, rfl⟩⟩
    · refine wp_run (k := 2) (pc1 := 19) (l1 := [(0, .ref 0), (1, .int (iN (zp))), (2, .int (iN (zv)))]) (st1 := [.int (iN (999)), .int (iN (zv))]) (kr1 := (78, 76)) (h1 := zh) rfl ?_
      refine wp_le (a := zv) (b := 999) rfl (by omega) (by omega) (fun b_19 => ?_) (fun b_19 => ?_)
      · refine wp_run (k := 3) (pc1 := 29) (l1 := [(0, .ref 0), (1, .int (iN (zp))), (2, .int (iN (zv)))]) (st1 := [.int (iN (zp)), .ref 23]) (kr1 := (78, 76)) (h1 := zh) rfl ?_
        refine wp_call (md1 := am_m_ByHand_made) (As := [.ref 23, .int (iN (zp))]) (rest := []) (kr1 := (78, 76)) rfl (jt_hmade _ (by omega) q_hd (zp := zp) (by omega)) ?_
        rintro _ _ ⟨rfl, rfl⟩
        refine wp_run (k := 5) (pc1 := 39) (l1 := [(0, .ref 0), (1, .int (iN (zp))), (2, .int (iN (zv))), (3, .int (iN (B (zp))))]) (st1 := [.int (iN (zv)), .int (iN (zp)), .ref 23]) (kr1 := (78, 76)) (h1 := zh) rfl ?_
        refine wp_call (md1 := am_m_ByHand_make) (As := [.ref 23, .int (iN (zp)), .int (iN (zv))]) (rest := []) (kr1 := (78, 76)) rfl (jt_hmake (zp := zp) (zv := zv) _ (by omega) (by omega)) ?_
        rintro _ _ ⟨rfl, rfl⟩
        refine wp_run (k := 1) (pc1 := 43) (l1 := [(0, .ref 0), (1, .int (iN (zp))), (2, .int (iN (zv))), (3, .int (iN (B (zp))))]) (st1 := [.int (iN (B (zp)))]) (kr1 := (78, 76)) (h1 := am_row zh 24 (zUp (zh.1 24) (zp : Int).toNat (iN (zv)))) rfl ?_
        refine wp_ret (rv := some (.int (iN (B (zp))))) rfl ?_
        exact ⟨fun _ => ⟨rfl, rfl⟩, fun y => by omega⟩
      · refine wp_run (k := 1) (pc1 := 23) (l1 := [(0, .ref 0), (1, .int (iN (zp))), (2, .int (iN (zv)))]) (st1 := [.int (iN (-1))]) (kr1 := (78, 76)) (h1 := zh) rfl ?_
        refine wp_ret (rv := some (.int (iN (-1)))) rfl ?_
        exact ⟨fun y => by omega, fun _ => ⟨rfl, rfl⟩⟩
