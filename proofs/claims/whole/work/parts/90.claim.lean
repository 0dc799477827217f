/-! THE CLAIM OUT OF ONE WALK OF THE LAW'S BODY. Your part is whole_start (and what it stands on); all else here is the same for every law, but numbers. -/
def R_law : String := "LotPlannerLaw"
def lw_P (b : Addr) (xs : List Int32) (args : Array Value) (s : State) : Prop := args = #[.ref b] ∧ s.IntsAt b xs ∧ xs.length ≤ 2560 ∧ (Jvm.Cond.and given_1 narrow_1).before args s = true
def lw_Q (_ : Array Value) (s : State) (o : Outcome) (t : State) : Prop := o = .returned (some (.int 1)) ∧ Framed s o t [] 600000 7302250
def lw_Z (below : List Frame) (a : Array Value) (s : State) : State → Prop := fun t => ∃ o, t.status = .running ∧ Ended t below o ∧ lw_Q a s o t
/-- the law's own end, with 1 on the stack, nothing written that was there before, its room as the claim has it -/
theorem lw_ret {p : Program} {l : Launch} {e : Env} {s : State} {m : MethodId} {below : List Frame} {meth : Method} {c : Code} {b : Nat} (hx : p.tables.exec = Jvm.exec) (hb : c.code = code) (hr : meth.sig.returnType = ret) (hlocks : meth.locks = false) {pc : Nat} {H : Heap} {ls : Array Slot} (hdg : decode code pc = .ok (.ireturn, 1)) : W p l e room_1 s m #[Value.ref b] below meth c H [] 600000 7302250 (lw_Z below #[Value.ref b] s) (F0 m pc ls [.int 1]) := by
  intro T hT X
  obtain ⟨fs, hret, hrun, hended, hW, hframe⟩ := X.leave (v := some (.int 1)) (hlocks := hlocks) (fun h => by rw [hr] at h; cases h)
  have hmeth' : T.vm.method? m = some meth := X.method'
  refine ⟨T.setFrames fs, ?_, .returned (some (.int 1)), hrun, hended, rfl, ⟨_, rfl⟩, hW, hframe⟩
  jvm_step X.here [X.here.top, hx, hb, hdg, hmeth', hr, ret, narrow_b1]
  (try refine ⟨rfl, ?_⟩); (try refine ⟨rfl, ?_⟩)
  first | (intro acts; rw [hret _ acts rfl rfl rfl]) | rw [hret _ _ rfl rfl rfl]
  exact Steps.refl _
/-- what holds at the law's entry: the machine, the code, the tables' words (any of lw_tbl by 'hts w (by decide +kernel)'), the script of L ints xs at the cell b, what the Statement gives of the start (any of its parts by flat_of_before) -/
def lw_At (p : Program) (s : State) (m : MethodId) (meth : Method) (c : Code) (b L : Nat) (xs : Nat → Int32) : Prop :=
  p.tables.exec = Jvm.exec ∧ c.code = code ∧ meth.sig.returnType = ret ∧ c.maxLocals = 4 ∧ s.vm.findClass R_law = some m.cls ∧ (∀ w ∈ lw_tbl, w.before #[Value.ref b] s = true) ∧ va_X b L xs s s.heap ∧ b < s.heap.size ∧ meth.locks = false ∧ (Jvm.Cond.and given_1 narrow_1).before #[Value.ref b] s = true
/-- a text of the start -/
theorem am_str {args : Array Value} {s : State} {b : Nat} (own : String) (k : Nat) (tx : String) (by0 : List Int32) (hb : b = s.heap.size) (hlen : by0.length < 2 ^ 31) (h0 : (Jvm.Cond.stringRef own k tx).before args s = true) (h1 : (Jvm.Cond.exactly (.string own k) "java/lang/String").before args s = true) (h2 : (Jvm.Cond.eq (.field (.string own k) "java/lang/String" "coder" "B") (.int 0)).before args s = true)
    (h3 : (Jvm.Cond.arrayOf (.field (.string own k) "java/lang/String" "value" "[B") .byte).before args s = true) (h4 : (Jvm.Cond.eq (.length (.field (.string own k) "java/lang/String" "value" "[B")) (.int (Int32.ofNat by0.length))).before args s = true)
    (h5 : ∀ j : Nat, j < by0.length → (Jvm.Cond.eq (.elem (.field (.string own k) "java/lang/String" "value" "[B") (.int (Int32.ofNat j))) (.int (by0.getD j 0))).before args s = true) :
    ∃ a v : Nat, vk_R own k tx a s ∧ va_O "java/lang/String" a (fun q => b ≤ q) s s.heap ∧ va_OF "java/lang/String" "coder" "B" (.int 0) a (fun q => b ≤ q) s s.heap ∧ va_OF "java/lang/String" "value" "[B" (.ref v) a (fun q => b ≤ q) s s.heap ∧ va_T .byte v by0.length (fun k => .int (by0.getD k 0)) (fun q => b ≤ q) s s.heap := by
  subst hb
  obtain ⟨adK, adV, hS, hev⟩ := vk_Sof (args := args) (s := s) (N := 1) (tm := fun _ => .string own k) (len := [by0.length]) (byt := [by0]) (A := fun q => s.heap.size ≤ q) (fun i hi => by rw [Nat.lt_one_iff.mp hi]; exact hlen) (fun i _ => h1) (fun i _ => h2) (fun i _ => h3) (fun i hi => by rw [Nat.lt_one_iff.mp hi]; exact h4) (fun i hi j hj => by rw [Nat.lt_one_iff.mp hi] at hj ⊢; exact h5 j hj) (fun i j hi hj hij => absurd ((Nat.lt_one_iff.mp hi).trans (Nat.lt_one_iff.mp hj).symm) hij) (fun a ha => Nat.not_le.mpr ha)
  obtain ⟨g1, g2, g3, g4⟩ := hS.1 0 (by decide)
  exact ⟨adK 0, adV 0, vk_R.of h0 (hev 0 (by decide)), g1, g2, g3, g4⟩
def am_h0 (xs : Nat → Int32) (L : Nat) : am_H := (fun c k => if c = 1050 then xs k else if c = 1051 then nI L else 0, fun _ _ => 0)
section START
variable {p : Program} {s : State} {m : MethodId} {meth : Method} {c : Code} {b L : Nat} {xs : Nat → Int32}
abbrev am_nar : Jvm.Cond := Jvm.Cond.and given_1 narrow_1
set_option maxRecDepth 100000 in
set_option maxHeartbeats 4000000 in
theorem am_str_0 (C0 : lw_At p s m meth c b L xs) : ∃ a v : Nat, vk_R "LotPlanner$Text" 86 "demand" a s ∧ va_O "java/lang/String" a (fun q => s.heap.size ≤ q) s s.heap ∧ va_OF "java/lang/String" "coder" "B" (.int 0) a (fun q => s.heap.size ≤ q) s s.heap ∧ va_OF "java/lang/String" "value" "[B" (.ref v) a (fun q => s.heap.size ≤ q) s s.heap ∧ va_T .byte v (am_by 0).length (fun k => .int ((am_by 0).getD k 0)) (fun q => s.heap.size ≤ q) s s.heap := by
  obtain ⟨hx, hb, hr, hml, hown, hts, hX, hbl, hlocks, hgv⟩ := C0
  have hs := flat_of_before _ hgv
  exact am_str "LotPlanner$Text" 86 "demand" (am_by 0) rfl (by decide) (hts _ (am_at_in (i := 2181) (by decide +kernel))) (hs _ (by decide +kernel)) (hs _ (by decide +kernel)) (hs _ (by decide +kernel)) (hs _ (by decide +kernel)) (fun j hj => hs _ ((show ∀ j, j < 6 → (Jvm.Cond.eq (.elem (.field (.string "LotPlanner$Text" 86) "java/lang/String" "value" "[B") (.int (Int32.ofNat j))) (.int ((am_by 0).getD j 0))) ∈ flatC am_nar from by decide +kernel) j hj))
set_option maxRecDepth 100000 in
set_option maxHeartbeats 4000000 in
theorem am_str_1 (C0 : lw_At p s m meth c b L xs) : ∃ a v : Nat, vk_R "LotPlanner$Text" 88 "setup" a s ∧ va_O "java/lang/String" a (fun q => s.heap.size ≤ q) s s.heap ∧ va_OF "java/lang/String" "coder" "B" (.int 0) a (fun q => s.heap.size ≤ q) s s.heap ∧ va_OF "java/lang/String" "value" "[B" (.ref v) a (fun q => s.heap.size ≤ q) s s.heap ∧ va_T .byte v (am_by 1).length (fun k => .int ((am_by 1).getD k 0)) (fun q => s.heap.size ≤ q) s s.heap := by
  obtain ⟨hx, hb, hr, hml, hown, hts, hX, hbl, hlocks, hgv⟩ := C0
  have hs := flat_of_before _ hgv
  exact am_str "LotPlanner$Text" 88 "setup" (am_by 1) rfl (by decide) (hts _ (am_at_in (i := 2182) (by decide +kernel))) (hs _ (by decide +kernel)) (hs _ (by decide +kernel)) (hs _ (by decide +kernel)) (hs _ (by decide +kernel)) (fun j hj => hs _ ((show ∀ j, j < 5 → (Jvm.Cond.eq (.elem (.field (.string "LotPlanner$Text" 88) "java/lang/String" "value" "[B") (.int (Int32.ofNat j))) (.int ((am_by 1).getD j 0))) ∈ flatC am_nar from by decide +kernel) j hj))
set_option maxRecDepth 100000 in
set_option maxHeartbeats 4000000 in
theorem am_str_2 (C0 : lw_At p s m meth c b L xs) : ∃ a v : Nat, vk_R "LotPlanner$Text" 90 "making" a s ∧ va_O "java/lang/String" a (fun q => s.heap.size ≤ q) s s.heap ∧ va_OF "java/lang/String" "coder" "B" (.int 0) a (fun q => s.heap.size ≤ q) s s.heap ∧ va_OF "java/lang/String" "value" "[B" (.ref v) a (fun q => s.heap.size ≤ q) s s.heap ∧ va_T .byte v (am_by 2).length (fun k => .int ((am_by 2).getD k 0)) (fun q => s.heap.size ≤ q) s s.heap := by
  obtain ⟨hx, hb, hr, hml, hown, hts, hX, hbl, hlocks, hgv⟩ := C0
  have hs := flat_of_before _ hgv
  exact am_str "LotPlanner$Text" 90 "making" (am_by 2) rfl (by decide) (hts _ (am_at_in (i := 2183) (by decide +kernel))) (hs _ (by decide +kernel)) (hs _ (by decide +kernel)) (hs _ (by decide +kernel)) (hs _ (by decide +kernel)) (fun j hj => hs _ ((show ∀ j, j < 6 → (Jvm.Cond.eq (.elem (.field (.string "LotPlanner$Text" 90) "java/lang/String" "value" "[B") (.int (Int32.ofNat j))) (.int ((am_by 2).getD j 0))) ∈ flatC am_nar from by decide +kernel) j hj))
set_option maxRecDepth 100000 in
set_option maxHeartbeats 4000000 in
theorem am_str_3 (C0 : lw_At p s m meth c b L xs) : ∃ a v : Nat, vk_R "LotPlanner$Text" 92 "holding" a s ∧ va_O "java/lang/String" a (fun q => s.heap.size ≤ q) s s.heap ∧ va_OF "java/lang/String" "coder" "B" (.int 0) a (fun q => s.heap.size ≤ q) s s.heap ∧ va_OF "java/lang/String" "value" "[B" (.ref v) a (fun q => s.heap.size ≤ q) s s.heap ∧ va_T .byte v (am_by 3).length (fun k => .int ((am_by 3).getD k 0)) (fun q => s.heap.size ≤ q) s s.heap := by
  obtain ⟨hx, hb, hr, hml, hown, hts, hX, hbl, hlocks, hgv⟩ := C0
  have hs := flat_of_before _ hgv
  exact am_str "LotPlanner$Text" 92 "holding" (am_by 3) rfl (by decide) (hts _ (am_at_in (i := 2184) (by decide +kernel))) (hs _ (by decide +kernel)) (hs _ (by decide +kernel)) (hs _ (by decide +kernel)) (hs _ (by decide +kernel)) (fun j hj => hs _ ((show ∀ j, j < 7 → (Jvm.Cond.eq (.elem (.field (.string "LotPlanner$Text" 92) "java/lang/String" "value" "[B") (.int (Int32.ofNat j))) (.int ((am_by 3).getD j 0))) ∈ flatC am_nar from by decide +kernel) j hj))
set_option maxRecDepth 100000 in
set_option maxHeartbeats 4000000 in
theorem am_str_4 (C0 : lw_At p s m meth c b L xs) : ∃ a v : Nat, vk_R "LotPlanner$Text" 94 "late" a s ∧ va_O "java/lang/String" a (fun q => s.heap.size ≤ q) s s.heap ∧ va_OF "java/lang/String" "coder" "B" (.int 0) a (fun q => s.heap.size ≤ q) s s.heap ∧ va_OF "java/lang/String" "value" "[B" (.ref v) a (fun q => s.heap.size ≤ q) s s.heap ∧ va_T .byte v (am_by 4).length (fun k => .int ((am_by 4).getD k 0)) (fun q => s.heap.size ≤ q) s s.heap := by
  obtain ⟨hx, hb, hr, hml, hown, hts, hX, hbl, hlocks, hgv⟩ := C0
  have hs := flat_of_before _ hgv
  exact am_str "LotPlanner$Text" 94 "late" (am_by 4) rfl (by decide) (hts _ (am_at_in (i := 2185) (by decide +kernel))) (hs _ (by decide +kernel)) (hs _ (by decide +kernel)) (hs _ (by decide +kernel)) (hs _ (by decide +kernel)) (fun j hj => hs _ ((show ∀ j, j < 4 → (Jvm.Cond.eq (.elem (.field (.string "LotPlanner$Text" 94) "java/lang/String" "value" "[B") (.int (Int32.ofNat j))) (.int ((am_by 4).getD j 0))) ∈ flatC am_nar from by decide +kernel) j hj))
set_option maxRecDepth 100000 in
set_option maxHeartbeats 4000000 in
theorem am_str_5 (C0 : lw_At p s m meth c b L xs) : ∃ a v : Nat, vk_R "LotPlanner$Text" 96 "room" a s ∧ va_O "java/lang/String" a (fun q => s.heap.size ≤ q) s s.heap ∧ va_OF "java/lang/String" "coder" "B" (.int 0) a (fun q => s.heap.size ≤ q) s s.heap ∧ va_OF "java/lang/String" "value" "[B" (.ref v) a (fun q => s.heap.size ≤ q) s s.heap ∧ va_T .byte v (am_by 5).length (fun k => .int ((am_by 5).getD k 0)) (fun q => s.heap.size ≤ q) s s.heap := by
  obtain ⟨hx, hb, hr, hml, hown, hts, hX, hbl, hlocks, hgv⟩ := C0
  have hs := flat_of_before _ hgv
  exact am_str "LotPlanner$Text" 96 "room" (am_by 5) rfl (by decide) (hts _ (am_at_in (i := 2186) (by decide +kernel))) (hs _ (by decide +kernel)) (hs _ (by decide +kernel)) (hs _ (by decide +kernel)) (hs _ (by decide +kernel)) (fun j hj => hs _ ((show ∀ j, j < 4 → (Jvm.Cond.eq (.elem (.field (.string "LotPlanner$Text" 96) "java/lang/String" "value" "[B") (.int (Int32.ofNat j))) (.int ((am_by 5).getD j 0))) ∈ flatC am_nar from by decide +kernel) j hj))
set_option maxRecDepth 100000 in
set_option maxHeartbeats 4000000 in
theorem am_str_6 (C0 : lw_At p s m meth c b L xs) : ∃ a v : Nat, vk_R "LotPlannerModel" 170 "demand" a s ∧ va_O "java/lang/String" a (fun q => s.heap.size ≤ q) s s.heap ∧ va_OF "java/lang/String" "coder" "B" (.int 0) a (fun q => s.heap.size ≤ q) s s.heap ∧ va_OF "java/lang/String" "value" "[B" (.ref v) a (fun q => s.heap.size ≤ q) s s.heap ∧ va_T .byte v (am_by 6).length (fun k => .int ((am_by 6).getD k 0)) (fun q => s.heap.size ≤ q) s s.heap := by
  obtain ⟨hx, hb, hr, hml, hown, hts, hX, hbl, hlocks, hgv⟩ := C0
  have hs := flat_of_before _ hgv
  exact am_str "LotPlannerModel" 170 "demand" (am_by 6) rfl (by decide) (hts _ (am_at_in (i := 5197) (by decide +kernel))) (hs _ (by decide +kernel)) (hs _ (by decide +kernel)) (hs _ (by decide +kernel)) (hs _ (by decide +kernel)) (fun j hj => hs _ ((show ∀ j, j < 6 → (Jvm.Cond.eq (.elem (.field (.string "LotPlannerModel" 170) "java/lang/String" "value" "[B") (.int (Int32.ofNat j))) (.int ((am_by 6).getD j 0))) ∈ flatC am_nar from by decide +kernel) j hj))
set_option maxRecDepth 100000 in
set_option maxHeartbeats 4000000 in
theorem am_str_7 (C0 : lw_At p s m meth c b L xs) : ∃ a v : Nat, vk_R "LotPlannerModel" 176 "setup" a s ∧ va_O "java/lang/String" a (fun q => s.heap.size ≤ q) s s.heap ∧ va_OF "java/lang/String" "coder" "B" (.int 0) a (fun q => s.heap.size ≤ q) s s.heap ∧ va_OF "java/lang/String" "value" "[B" (.ref v) a (fun q => s.heap.size ≤ q) s s.heap ∧ va_T .byte v (am_by 7).length (fun k => .int ((am_by 7).getD k 0)) (fun q => s.heap.size ≤ q) s s.heap := by
  obtain ⟨hx, hb, hr, hml, hown, hts, hX, hbl, hlocks, hgv⟩ := C0
  have hs := flat_of_before _ hgv
  exact am_str "LotPlannerModel" 176 "setup" (am_by 7) rfl (by decide) (hts _ (am_at_in (i := 5204) (by decide +kernel))) (hs _ (by decide +kernel)) (hs _ (by decide +kernel)) (hs _ (by decide +kernel)) (hs _ (by decide +kernel)) (fun j hj => hs _ ((show ∀ j, j < 5 → (Jvm.Cond.eq (.elem (.field (.string "LotPlannerModel" 176) "java/lang/String" "value" "[B") (.int (Int32.ofNat j))) (.int ((am_by 7).getD j 0))) ∈ flatC am_nar from by decide +kernel) j hj))
set_option maxRecDepth 100000 in
set_option maxHeartbeats 4000000 in
theorem am_str_8 (C0 : lw_At p s m meth c b L xs) : ∃ a v : Nat, vk_R "LotPlannerModel" 178 "making" a s ∧ va_O "java/lang/String" a (fun q => s.heap.size ≤ q) s s.heap ∧ va_OF "java/lang/String" "coder" "B" (.int 0) a (fun q => s.heap.size ≤ q) s s.heap ∧ va_OF "java/lang/String" "value" "[B" (.ref v) a (fun q => s.heap.size ≤ q) s s.heap ∧ va_T .byte v (am_by 8).length (fun k => .int ((am_by 8).getD k 0)) (fun q => s.heap.size ≤ q) s s.heap := by
  obtain ⟨hx, hb, hr, hml, hown, hts, hX, hbl, hlocks, hgv⟩ := C0
  have hs := flat_of_before _ hgv
  exact am_str "LotPlannerModel" 178 "making" (am_by 8) rfl (by decide) (hts _ (am_at_in (i := 5205) (by decide +kernel))) (hs _ (by decide +kernel)) (hs _ (by decide +kernel)) (hs _ (by decide +kernel)) (hs _ (by decide +kernel)) (fun j hj => hs _ ((show ∀ j, j < 6 → (Jvm.Cond.eq (.elem (.field (.string "LotPlannerModel" 178) "java/lang/String" "value" "[B") (.int (Int32.ofNat j))) (.int ((am_by 8).getD j 0))) ∈ flatC am_nar from by decide +kernel) j hj))
set_option maxRecDepth 100000 in
set_option maxHeartbeats 4000000 in
theorem am_str_9 (C0 : lw_At p s m meth c b L xs) : ∃ a v : Nat, vk_R "LotPlannerModel" 180 "holding" a s ∧ va_O "java/lang/String" a (fun q => s.heap.size ≤ q) s s.heap ∧ va_OF "java/lang/String" "coder" "B" (.int 0) a (fun q => s.heap.size ≤ q) s s.heap ∧ va_OF "java/lang/String" "value" "[B" (.ref v) a (fun q => s.heap.size ≤ q) s s.heap ∧ va_T .byte v (am_by 9).length (fun k => .int ((am_by 9).getD k 0)) (fun q => s.heap.size ≤ q) s s.heap := by
  obtain ⟨hx, hb, hr, hml, hown, hts, hX, hbl, hlocks, hgv⟩ := C0
  have hs := flat_of_before _ hgv
  exact am_str "LotPlannerModel" 180 "holding" (am_by 9) rfl (by decide) (hts _ (am_at_in (i := 5206) (by decide +kernel))) (hs _ (by decide +kernel)) (hs _ (by decide +kernel)) (hs _ (by decide +kernel)) (hs _ (by decide +kernel)) (fun j hj => hs _ ((show ∀ j, j < 7 → (Jvm.Cond.eq (.elem (.field (.string "LotPlannerModel" 180) "java/lang/String" "value" "[B") (.int (Int32.ofNat j))) (.int ((am_by 9).getD j 0))) ∈ flatC am_nar from by decide +kernel) j hj))
set_option maxRecDepth 100000 in
set_option maxHeartbeats 4000000 in
theorem am_str_10 (C0 : lw_At p s m meth c b L xs) : ∃ a v : Nat, vk_R "LotPlannerModel" 182 "late" a s ∧ va_O "java/lang/String" a (fun q => s.heap.size ≤ q) s s.heap ∧ va_OF "java/lang/String" "coder" "B" (.int 0) a (fun q => s.heap.size ≤ q) s s.heap ∧ va_OF "java/lang/String" "value" "[B" (.ref v) a (fun q => s.heap.size ≤ q) s s.heap ∧ va_T .byte v (am_by 10).length (fun k => .int ((am_by 10).getD k 0)) (fun q => s.heap.size ≤ q) s s.heap := by
  obtain ⟨hx, hb, hr, hml, hown, hts, hX, hbl, hlocks, hgv⟩ := C0
  have hs := flat_of_before _ hgv
  exact am_str "LotPlannerModel" 182 "late" (am_by 10) rfl (by decide) (hts _ (am_at_in (i := 5207) (by decide +kernel))) (hs _ (by decide +kernel)) (hs _ (by decide +kernel)) (hs _ (by decide +kernel)) (hs _ (by decide +kernel)) (fun j hj => hs _ ((show ∀ j, j < 4 → (Jvm.Cond.eq (.elem (.field (.string "LotPlannerModel" 182) "java/lang/String" "value" "[B") (.int (Int32.ofNat j))) (.int ((am_by 10).getD j 0))) ∈ flatC am_nar from by decide +kernel) j hj))
set_option maxRecDepth 100000 in
set_option maxHeartbeats 4000000 in
theorem am_str_11 (C0 : lw_At p s m meth c b L xs) : ∃ a v : Nat, vk_R "LotPlannerModel" 184 "room" a s ∧ va_O "java/lang/String" a (fun q => s.heap.size ≤ q) s s.heap ∧ va_OF "java/lang/String" "coder" "B" (.int 0) a (fun q => s.heap.size ≤ q) s s.heap ∧ va_OF "java/lang/String" "value" "[B" (.ref v) a (fun q => s.heap.size ≤ q) s s.heap ∧ va_T .byte v (am_by 11).length (fun k => .int ((am_by 11).getD k 0)) (fun q => s.heap.size ≤ q) s s.heap := by
  obtain ⟨hx, hb, hr, hml, hown, hts, hX, hbl, hlocks, hgv⟩ := C0
  have hs := flat_of_before _ hgv
  exact am_str "LotPlannerModel" 184 "room" (am_by 11) rfl (by decide) (hts _ (am_at_in (i := 5208) (by decide +kernel))) (hs _ (by decide +kernel)) (hs _ (by decide +kernel)) (hs _ (by decide +kernel)) (hs _ (by decide +kernel)) (fun j hj => hs _ ((show ∀ j, j < 4 → (Jvm.Cond.eq (.elem (.field (.string "LotPlannerModel" 184) "java/lang/String" "value" "[B") (.int (Int32.ofNat j))) (.int ((am_by 11).getD j 0))) ∈ flatC am_nar from by decide +kernel) j hj))
set_option maxRecDepth 100000 in
set_option maxHeartbeats 4000000 in
theorem am_tab_AT_FIRST (C0 : lw_At p s m meth c b L xs) : ∃ a : Nat, va_Z "LotPlanner" "AT_FIRST" "[I" (.ref a) (fun q => s.heap.size ≤ q) s s.heap ∧ va_T .int a 6 (fun j => .int (am_F6 j)) (fun q => s.heap.size ≤ q) s s.heap := by
  obtain ⟨hx, hb, hr, hml, hown, hts, hX, hbl, hlocks, hgv⟩ := C0
  have hs := flat_of_before _ hgv
  obtain ⟨t, ht, hT⟩ := va_Tof (args := #[Value.ref b]) (s := s) (tm := .static "LotPlanner" "AT_FIRST" "[I") (ty := .int) (N := 6) (f := fun j => .int (am_F6 j)) (A := fun q => s.heap.size ≤ q) (by decide) (hs _ (by decide +kernel)) (va_eqt (hs _ (by decide +kernel))) (fun j hj => va_eqt (hs _ ((show ∀ j, j < 6 → (Jvm.Cond.eq (.elem (.static "LotPlanner" "AT_FIRST" "[I") (.int (Int32.ofNat j))) (.int (am_F6 j))) ∈ flatC am_nar from by decide +kernel) j hj))) (fun a ha => Nat.not_le.mpr ha)
  exact ⟨t, va_Zref (hts _ (am_at_in (i := 1037) (by decide +kernel))) (hts _ (am_at_in (i := 1001) (by decide +kernel))) ht (fun a ha => Nat.not_le.mpr ha), hT⟩
set_option maxRecDepth 100000 in
set_option maxHeartbeats 4000000 in
theorem am_tab_AT_MOST (C0 : lw_At p s m meth c b L xs) : ∃ a : Nat, va_Z "LotPlanner" "AT_MOST" "[I" (.ref a) (fun q => s.heap.size ≤ q) s s.heap ∧ va_T .int a 6 (fun j => .int (am_M6 j)) (fun q => s.heap.size ≤ q) s s.heap := by
  obtain ⟨hx, hb, hr, hml, hown, hts, hX, hbl, hlocks, hgv⟩ := C0
  have hs := flat_of_before _ hgv
  obtain ⟨t, ht, hT⟩ := va_Tof (args := #[Value.ref b]) (s := s) (tm := .static "LotPlanner" "AT_MOST" "[I") (ty := .int) (N := 6) (f := fun j => .int (am_M6 j)) (A := fun q => s.heap.size ≤ q) (by decide) (hs _ (by decide +kernel)) (va_eqt (hs _ (by decide +kernel))) (fun j hj => va_eqt (hs _ ((show ∀ j, j < 6 → (Jvm.Cond.eq (.elem (.static "LotPlanner" "AT_MOST" "[I") (.int (Int32.ofNat j))) (.int (am_M6 j))) ∈ flatC am_nar from by decide +kernel) j hj))) (fun a ha => Nat.not_le.mpr ha)
  exact ⟨t, va_Zref (hts _ (am_at_in (i := 2088) (by decide +kernel))) (hts _ (am_at_in (i := 1001) (by decide +kernel))) ht (fun a ha => Nat.not_le.mpr ha), hT⟩
set_option maxRecDepth 100000 in
set_option maxHeartbeats 4000000 in
theorem am_sta2 (C0 : lw_At p s m meth c b L xs) : va_Z "java/lang/String" "COMPACT_STRINGS" "Z" (.int 1) (fun q => s.heap.size ≤ q) s s.heap ∧ ∃ r : Option Nat, va_Z "jdk/internal/util/Preconditions" "SIOOBE_FORMATTER" "Ljava/util/function/BiFunction;" (va_rf r) (fun q => s.heap.size ≤ q) s s.heap := by
  obtain ⟨hx, hb, hr, hml, hown, hts, hX, hbl, hlocks, hgv⟩ := C0
  have hs := flat_of_before _ hgv
  refine ⟨va_Zof (hts _ (am_at_in (i := 2200) (by decide +kernel))) (hts _ (am_at_in (i := 1014) (by decide +kernel))) (va_eqi (hs _ (by decide +kernel))) (fun a ha => Nat.not_le.mpr ha), ?_⟩
  rcases va_Zqof (args := #[Value.ref b]) (s := s) (A := fun q => s.heap.size ≤ q) (hts (.laysStatic "jdk/internal/util/Preconditions" "SIOOBE_FORMATTER" "Ljava/util/function/BiFunction;") (am_at_in (i := 2216) (by decide +kernel))) (hts _ (am_at_in (i := 1016) (by decide +kernel))) (hs _ (by decide +kernel)) (fun a ha => Nat.not_le.mpr ha) with z | ⟨t, z⟩
  · exact ⟨none, z⟩
  · exact ⟨some t, z⟩
def am_npos (o i : Nat) : Nat := if o = 5 ∧ i = 29 then 1038 else if o = 5 ∧ i = 33 then 1041 else if o = 5 ∧ i = 41 then 2111 else if o = 9 ∧ i = 31 then 2148 else if o = 9 ∧ i = 105 then 3016 else if o = 4 ∧ i = 30 then 3049 else if o = 4 ∧ i = 38 then 3051 else if o = 6 ∧ i = 76 then 3081 else if o = 6 ∧ i = 106 then 3087 else if o = 0 ∧ i = 45 then 3181 else if o = 0 ∧ i = 64 then 3186 else if o = 1 ∧ i = 15 then 4063 else if o = 1 ∧ i = 19 then 4068 else if o = 7 ∧ i = 38 then 4113 else if o = 8 ∧ i = 19 then 4136 else if o = 8 ∧ i = 27 then 4145 else if o = 8 ∧ i = 31 then 4154 else 9000
def am_np2 (q : Nat × Nat × Nat) : Bool := am_at (am_npos q.1 q.2.1) (.methodLinkNest (am_cn q.1) q.2.1 (am_Y (am_meth q.2.2)) "LotPlanner")
theorem am_nst (C0 : lw_At p s m meth c b L xs) : (∀ q ∈ am_ne, va_Nw (.methodLinkNest (am_cn q.1) q.2.1 (am_Y (am_meth q.2.2)) "LotPlanner") s) ∧ va_Nw (.fieldLinkNest "LotPlanner$Numbers" 26 "LotPlanner" "AT_FIRST" "[I" "LotPlanner") s := by
  obtain ⟨hx, hb, hr, hml, hown, hts, hX, hbl, hlocks, hgv⟩ := C0
  refine ⟨fun q hq => va_Nw.of rfl (hts _ ?_), va_Nw.of rfl (hts _ (am_at_in (i := 1036) (by decide +kernel)))⟩
  have h1 : am_ne.all (fun q => am_np2 q) = true := by decide +kernel
  exact am_at_in (List.all_eq_true.mp h1 q hq)
theorem am_knw (C0 : lw_At p s m meth c b L xs) : ∃ (D : va_G) (ty : Nat → ClassId), va_K D vwCl [(ty 1, .int), (ty 2, .char), (ty 3, .long)] s := by
  obtain ⟨hx, hb, hr, hml, hown, hts, hX, hbl, hlocks, hgv⟩ := C0
  have hW : ∀ w ∈ am_W, w.before #[Value.ref b] s = true := fun w hw => hts w (List.mem_filter.mp hw).1
  obtain ⟨c0, i0, k0⟩ := u_known (C := RX0) (T := TX0) (N := 6) (n := 6) hW am_cl0.2.1 (hts _ (am_at_in (i := 1124) (by decide +kernel)))
  obtain ⟨c1, i1, k1⟩ := u_known (C := RX1) (T := TX1) (N := 1) (n := 1) hW am_cl1.2.1 (hts _ (am_at_in (i := 1165) (by decide +kernel)))
  obtain ⟨c2, i2, k2⟩ := u_known (C := RX2) (T := TX2) (N := 3) (n := 3) hW am_cl2.2.1 (hts _ (am_at_in (i := 1149) (by decide +kernel)))
  obtain ⟨c3, i3, k3⟩ := u_known (C := RX3) (T := TX3) (N := 3) (n := 3) hW am_cl3.2.1 (hts _ (am_at_in (i := 1175) (by decide +kernel)))
  obtain ⟨c4, i4, k4⟩ := u_known (C := RX4) (T := TX4) (N := 4) (n := 4) hW am_cl4.2.1 (hts _ (am_at_in (i := 1062) (by decide +kernel)))
  obtain ⟨c5, i5, k5⟩ := u_known (C := RX5) (T := TX5) (N := 3) (n := 3) hW am_cl5.2.1 (hts _ (am_at_in (i := 1027) (by decide +kernel)))
  obtain ⟨c6, i6, k6⟩ := u_known (C := RX6) (T := TX6) (N := 14) (n := 14) hW am_cl6.2.1 (hts _ (am_at_in (i := 1056) (by decide +kernel)))
  obtain ⟨c7, i7, k7⟩ := u_known (C := RX7) (T := TX7) (N := 2) (n := 2) hW am_cl7.2.1 (hts _ (am_at_in (i := 1217) (by decide +kernel)))
  obtain ⟨c8, i8, k8⟩ := u_known (C := RX8) (T := TX8) (N := 2) (n := 2) hW am_cl8.2.1 (hts _ (am_at_in (i := 1230) (by decide +kernel)))
  obtain ⟨c9, i9, k9⟩ := u_known (C := RX9) (T := TX9) (N := 6) (n := 6) hW am_cl9.2.1 (hts _ (am_at_in (i := 1191) (by decide +kernel)))
  obtain ⟨c10, i10, k10⟩ := u_known (C := RX10) (T := TX10) (N := 14) (n := 14) hW am_cl10.2.1 (hts _ (am_at_in (i := 1019) (by decide +kernel)))
  obtain ⟨c11, i11, k11⟩ := u_known (C := RX11) (T := TX11) (N := 37) (n := 37) hW am_cl11.2.1 (hts _ (am_at_in (i := 4223) (by decide +kernel)))
  have arr : ∀ ty : FieldType, (ty = .int ∨ ty = .char ∨ ty = .long) → ∃ cA : ClassId, ArrOfT s cA ty ∧ s.vm.findClass ("[" ++ ty.toString) = some cA := by
    intro ty hty
    obtain ⟨cA, kA, comp, h1, h2, h3⟩ := Cond.arrayClass_spec (hW _ (am_ac hty))
    exact ⟨cA, fun n z => ⟨fun k h => (by cases h), kA, h2, comp, h3⟩, h1⟩
  obtain ⟨a1, b1, d1⟩ := arr .int (Or.inl rfl)
  obtain ⟨a2, b2, d2⟩ := arr .char (Or.inr (Or.inl rfl))
  obtain ⟨a3, b3, d3⟩ := arr .long (Or.inr (Or.inr rfl))
  refine ⟨(fun k => ([c0, c1, c2, c3, c4, c5, c6, c7, c8, c9, c10, c11] : List ClassId).getD k 0, fun k => ([i0, i1, i2, i3, i4, i5, i6, i7, i8, i9, i10, i11] : List (Nat → Nat)).getD k (fun _ => 0)), fun k => ([0, a1, a2, a3] : List ClassId).getD k 0, fun k q hq => ?_, fun k q hq => ?_⟩
  · match k, hq with
    | 0, hq => cases hq; exact k0
    | 1, hq => cases hq; exact k1
    | 2, hq => cases hq; exact k2
    | 3, hq => cases hq; exact k3
    | 4, hq => cases hq; exact k4
    | 5, hq => cases hq; exact k5
    | 6, hq => cases hq; exact k6
    | 7, hq => cases hq; exact k7
    | 8, hq => cases hq; exact k8
    | 9, hq => cases hq; exact k9
    | 10, hq => cases hq; exact k10
    | 11, hq => cases hq; exact k11
    | k + 12, hq => exact absurd hq (by show ¬ ([] : List vw_C)[k]? = some q; simp)
  · match k, hq with
    | 0, hq => cases hq; exact ⟨b1, d1⟩
    | 1, hq => cases hq; exact ⟨b2, d2⟩
    | 2, hq => cases hq; exact ⟨b3, d3⟩
    | k + 3, hq => exact absurd hq (by show ¬ ([] : List (ClassId × FieldType))[k]? = some q; simp)
theorem am_env0 (C0 : lw_At p s m meth c b L xs) : ∃ sp : Nat → Option Nat, sp 1050 = some b ∧ am_Env s.heap.size sp xs L s := by
  obtain ⟨a0, z0, t0⟩ := am_tab_AT_FIRST C0
  obtain ⟨a1, z1, t1⟩ := am_tab_AT_MOST C0
  obtain ⟨z2, r, z3⟩ := am_sta2 C0
  obtain ⟨n1, n2⟩ := am_nst C0
  have hst : ∀ j : Nat, ∃ q : Nat × Nat, ∀ w : String × Nat × String × List Int32, am_st[j]? = some w → vk_R w.1 w.2.1 w.2.2.1 q.1 s ∧ va_O "java/lang/String" q.1 (fun q => s.heap.size ≤ q) s s.heap ∧ va_OF "java/lang/String" "coder" "B" (.int 0) q.1 (fun q => s.heap.size ≤ q) s s.heap ∧ va_OF "java/lang/String" "value" "[B" (.ref q.2) q.1 (fun q => s.heap.size ≤ q) s s.heap ∧ va_T .byte q.2 (am_by j).length (fun k => .int ((am_by j).getD k 0)) (fun q => s.heap.size ≤ q) s s.heap := by
    intro j
    match j with
    | 0 => obtain ⟨a, v, g⟩ := am_str_0 C0; exact ⟨(a, v), fun w hw => by cases hw; exact g⟩
    | 1 => obtain ⟨a, v, g⟩ := am_str_1 C0; exact ⟨(a, v), fun w hw => by cases hw; exact g⟩
    | 2 => obtain ⟨a, v, g⟩ := am_str_2 C0; exact ⟨(a, v), fun w hw => by cases hw; exact g⟩
    | 3 => obtain ⟨a, v, g⟩ := am_str_3 C0; exact ⟨(a, v), fun w hw => by cases hw; exact g⟩
    | 4 => obtain ⟨a, v, g⟩ := am_str_4 C0; exact ⟨(a, v), fun w hw => by cases hw; exact g⟩
    | 5 => obtain ⟨a, v, g⟩ := am_str_5 C0; exact ⟨(a, v), fun w hw => by cases hw; exact g⟩
    | 6 => obtain ⟨a, v, g⟩ := am_str_6 C0; exact ⟨(a, v), fun w hw => by cases hw; exact g⟩
    | 7 => obtain ⟨a, v, g⟩ := am_str_7 C0; exact ⟨(a, v), fun w hw => by cases hw; exact g⟩
    | 8 => obtain ⟨a, v, g⟩ := am_str_8 C0; exact ⟨(a, v), fun w hw => by cases hw; exact g⟩
    | 9 => obtain ⟨a, v, g⟩ := am_str_9 C0; exact ⟨(a, v), fun w hw => by cases hw; exact g⟩
    | 10 => obtain ⟨a, v, g⟩ := am_str_10 C0; exact ⟨(a, v), fun w hw => by cases hw; exact g⟩
    | 11 => obtain ⟨a, v, g⟩ := am_str_11 C0; exact ⟨(a, v), fun w hw => by cases hw; exact g⟩
    | j + 12 => exact ⟨(0, 0), fun w hw => absurd hw (by show ¬ ([] : List (String × Nat × String × List Int32))[j]? = some w; simp)⟩
  obtain ⟨f, hf⟩ := Classical.axiomOfChoice hst
  obtain ⟨hx, hb, hr, hml, hown, hts, hX, hbl, hlocks, hgv⟩ := C0
  refine ⟨fun q => if q = 1040 then some a0 else if q = 1041 then some a1 else if q = 1050 then some b else if q = 1060 then r else if q < 1012 then some (f (q - 1000)).1 else some (f (q - 1020)).2, rfl, ⟨a0, rfl, z0, t0⟩, ⟨a1, rfl, z1, t1⟩, z2, z3, ⟨b, rfl, hbl, hX⟩, fun j w hw => ?_, n1, n2, Nat.le_refl _⟩
  have hj : j < 12 := (List.getElem?_eq_some_iff.mp hw).1
  refine ⟨(f j).1, (f j).2, ?_, ?_, hf j w hw⟩
  · show (if 1000 + j = 1040 then some a0 else if 1000 + j = 1041 then some a1 else if 1000 + j = 1050 then some b else if 1000 + j = 1060 then r else if 1000 + j < 1012 then some (f (1000 + j - 1000)).1 else some (f (1000 + j - 1020)).2) = some (f j).1
    rw [if_neg (by omega), if_neg (by omega), if_neg (by omega), if_neg (by omega), if_pos (by omega), Nat.add_sub_cancel_left]
  · show (if 1020 + j = 1040 then some a0 else if 1020 + j = 1041 then some a1 else if 1020 + j = 1050 then some b else if 1020 + j = 1060 then r else if 1020 + j < 1012 then some (f (1020 + j - 1000)).1 else some (f (1020 + j - 1020)).2) = some (f j).2
    rw [if_neg (by omega), if_neg (by omega), if_neg (by omega), if_neg (by omega), if_neg (by omega), Nat.add_sub_cancel_left]
end START
theorem am_S78 : am_S 78 = 12563 := by decide +kernel
-- ===== YOUR PART BEGINS =====
set_option maxRecDepth 100000 in
theorem whole_start {p : Program} {e : Env} {s : State} {m : MethodId} {below : List Frame} {meth : Method} {c : Code} (l : Launch) (hflags : l.flags = flags0) {b L : Nat} {xs : Nat → Int32} (hL : L ≤ 2560) (C0 : lw_At p s m meth c b L xs) : W p l e room_1 s m #[Value.ref b] below meth c s.heap [] 0 0 (lw_Z below #[Value.ref b] s) (entryFrame m ([Value.ref b] : List Value).toArray 4) := by
  obtain ⟨n, h', hex⟩ := am_law xs L hL
  obtain ⟨D, ty, hK⟩ := am_knw C0
  obtain ⟨sp, hsp, hE⟩ := am_env0 C0
  obtain ⟨hx, hb, hr, hml, hown, hts, hX, hbl, hlocks, hgv⟩ := id C0
  have hok : am_mok am_m_Law_law := am_q_Law_law
  have F : am_Fx p s m #[Value.ref b] meth c D ty s.heap.size sp xs L am_m_Law_law := ⟨⟨hx, hb, hml, hown⟩, fun w hw => hts w (List.mem_filter.mp hw).1, hK, hE, hok, (fun z => by cases z), by omega⟩
  have hl := lv_entry ([.ref b] : List Value) (n := 4) (Nat.le_of_ble_eq_true rfl)
  rw [lg_entry_eq]
  have hl2 : lv_has ((lg_sl ([Value.ref b] : List Value) ++ List.replicate (4 - (lg_sl ([Value.ref b] : List Value)).length) Slot.unset).toArray) (am_L am_m_Law_law) (am_ml s.heap.size sp [(0, .ref 1050)]) := by
    have e1 : am_ml s.heap.size sp [(0, .ref 1050)] = [(0, .ref b)] := by
      show [(0, am_cv s.heap.size sp (.ref 1050))] = _
      rw [am_cv_ge (by omega) hsp]
    rw [e1]
    exact hl
  have X : am_St s D ty s.heap.size sp xs L am_m_Law_law s.heap [] ((lg_sl ([Value.ref b] : List Value) ++ List.replicate (4 - (lg_sl ([Value.ref b] : List Value)).length) Slot.unset).toArray) [(0, .ref 1050)] (0, 0) (am_h0 xs L) := ⟨⟨⟨rfl, Nat.zero_le _⟩, ⟨rfl, rfl⟩, fun q hq => absurd hq (Nat.not_lt_zero q)⟩, va_S.rf, hl2⟩
  refine am_sound l D ty s.heap.size sp xs L n 20 am_m_Law_law 0 [(0, .ref 1050)] [] (0, 0) (am_h0 xs L) (some (.int 1)) (78, 76) h' hex p e room_1 s m #[Value.ref b] below meth c s.heap [] 0 0 _ _ F X ⟨by decide, by decide⟩ ⟨by decide, by show 0 + (am_S 78 - am_S 0) ≤ 7302250; rw [am_S78]; decide⟩ ?_
  intro H' locs' ls' pc' e' l' stk he hkd hret X'
  have hd := hok.1 pc' e' he
  obtain ⟨ins, tg, kc⟩ := e'
  rcases am_ret_i hret with ⟨x, y, hi, rfl, g1, g2, g3⟩ | ⟨x, hi, rfl, g1, g3⟩ | ⟨x, hi, rfl, g1, g3⟩ | ⟨hi, rfl, g1, g3⟩
  · have hi : ins = .ireturn := hi
    subst hi
    cases g3
    refine va_forget X'.2.1.2.2 (W.widen (k := 600000) (n := 7302250) (by decide) (by show 0 + (am_S 78 - am_S 0) ≤ 7302250; rw [am_S78]; decide) ?_)
    exact lw_ret hx hb hr hlocks (am_dd hd)
  · cases g3
  · cases g3
  · cases g3
-- ===== YOUR PART ENDS =====
set_option maxHeartbeats 4000000 in
theorem lw_walk (l : Launch) (hflags : l.flags = flags0) (b : Addr) (xs : List Int32) : MetFree l x (headSpec (Jvm.Cond.code x code maxLocals ret :: tables_1) room_1) (lw_P b xs) (fun _ _ _ _ _ => True) lw_Q := by
  refine MetFree.of_bodyS (code := code) (maxLocals := maxLocals) (ret := ret) (by decide) ?_ ?_
  · intro args s m h hn
    obtain ⟨meth, c, h1, h2, h3, h4, h5, h6, -, -⟩ := Cond.code_spec hn (atoms_spec (ws := Jvm.Cond.code x code maxLocals ret :: tables_1) h _ List.mem_cons_self)
    exact ⟨meth, c, h1, h2, h3, h4, h5, h6⟩
  · intro p e s m args below meth c s₁ B hml0 hP _
    obtain ⟨rfl, hx, hbd, hgv⟩ := hP
    obtain ⟨scr, harrAt, hlist, hof, hsmall⟩ := hx
    obtain ⟨hcb, hkn, -, -⟩ := State.arrayAt?_spec harrAt
    have hown : s.vm.findClass R_law = some m.cls := findClass_of_methodNamed B.named
    have hts0 : ∀ c ∈ (Jvm.Cond.code x code maxLocals ret :: tables_1), c.before #[Value.ref b] s = true := atoms_spec (ws := Jvm.Cond.code x code maxLocals ret :: tables_1) B.pre
    have hts : ∀ w ∈ lw_tbl, w.before #[Value.ref b] s = true := k2_hts_sels lw_privs (fun w hw => hts0 w (List.mem_cons_of_mem _ hw)) lw_privs_ok
    have hml : c.maxLocals = 4 := B.maxLocals_eq (hts0 _ List.mem_cons_self)
    have X₀ : Stand p l e room_1 s m #[Value.ref b] below meth c s₁ [] 0 0 := Stand.of_body B
    have hh0 : s₁.heap = s.heap := by rw [B.state]; rfl
    have hsz : scr.slots.size = xs.length := by rw [← Array.length_toList, hlist, List.length_map]
    have hval : ∀ j : Nat, j < xs.length → scr.slots[j]? = some (.int (xs.getD j 0)) := fun j hj => by
      rw [← Array.getElem?_toList, hlist]
      simp [hj]
    have hbl : b < s.heap.size := (Array.getElem?_eq_some_iff.mp hcb).1
    have hX : va_X b xs.length (fun j => xs.getD j 0) s s.heap := ⟨scr, hcb, hof, hkn, hsz, hval⟩
    have K : W p l e room_1 s m #[Value.ref b] below meth c s₁.heap [] 0 0 (lw_Z below #[Value.ref b] s) (entryFrame m ([Value.ref b] : List Value).toArray 4) := by
      rw [hh0]
      exact whole_start l hflags hbd ⟨B.exec, B.bytes, B.returns, hml, hown, hts, hX, hbl, B.notSynchronized, hgv⟩
    obtain ⟨t, a1, o, b1, b2, b3⟩ := K s₁ rfl X₀
    exact ⟨t, o, a1, b1, b2, b3⟩
theorem lw_pre_spec {args : Array Value} {s : State} (h : (Jvm.Cond.and given_1 narrow_1).before args s = true) (hr : rest_1_c.before args s = true) : ∃ (b : Addr) (xs : List Int32), lw_P b xs args s := by
  have hs := flat_of_before _ h
  have hq := flat_of_before _ hr
  have hc : (Cond.count 1).before args s = true := hs _ (by decide +kernel)
  have harr : (Cond.arrayOf (.arg 0) .int).before args s = true := hs _ (by decide +kernel)
  have hle : (Cond.le (.length (.arg 0)) (.int 2560)).before args s = true := hs _ (by decide +kernel)
  have hlen : (Cond.isInt (.length (.arg 0))).before args s = true := hq _ (by decide +kernel)
  have hall : (Cond.all (.arg 0) (.isInt (.elem (.arg 0) (.index 0)))).before args s = true := hq _ (by decide +kernel)
  obtain ⟨b, xs, hb, hx⟩ := State.ints_of_pre rfl harr hlen hall
  have hsm : xs.length < 2 ^ 31 := hx.choose_spec.2.2.2
  have hev : (Term.length (.arg 0)).eval args s none [] s = some (.int xs.length.toInt32) := hx.length_eval hb
  have hv := Cond.le_ints hev (show (Term.int 2560).eval args s none [] s = some (.int 2560) from rfl)
  have hd : xs.length.toInt32 ≤ 2560 := by
    simpa [Cond.before, Cond.holds, hv] using hle
  have hN : xs.length ≤ 2560 := (Int32.ofNat_le_ofNat hsm (by decide)).mp (show Int32.ofNat xs.length ≤ Int32.ofNat 2560 from hd)
  exact ⟨b, xs, Cond.one_arg hc (show args[0]? = some (.ref b) from hb), hx, hN, h⟩
theorem lw_comes (l : Launch) (hflags : l.flags = flags0) : Comes l x (Jvm.Cond.code x code maxLocals ret :: tables_1) room_1 (fun tb e args s => Calls_1 tb e args s ∧ rest_1 tb e args s ∧ Pre_1 tb e args s)
    (fun _ _ args s o t => lw_Q args s o t) := by
  intro p e ha hc hk s m args below hf hfit hheap happ hpre
  obtain ⟨b, xs, hP⟩ := lw_pre_spec hpre.2.2 hpre.2.1
  obtain ⟨k, o, h1, h2, h3, hQ⟩ := lw_walk l hflags b xs p e ha hc hk s m args below hf ((Spec.applies_iff_loose hf).mp happ).1 hP trivial
  exact ⟨k, o, h1, h2, h3, hQ⟩
theorem lw_frame {s t : State} {o : Outcome} {args : Array Value} (h : Framed s o t [] 600000 7302250) :
    Framed s o t (fieldLocs frame_1_writes args s ++ arrayLocs frame_1_arrays args s ++ staticLocs frame_1_statics s) 600000 7302250 := h
theorem lw_limb (L : Cond) (hL : ∀ (args : Array Value) (s t : State), L.after args s (.returned (some (.int 1))) t = true) :
    ArmFor flags0 classFile x code maxLocals ret World_1 tables_1 room_1 Calls_1 rest_1 Pre_1
      (fun tb e a s o t => postC L tb e a s o t ∧ Framed s o t (fieldLocs frame_1_writes a s ++ arrayLocs frame_1_arrays a s ++ staticLocs frame_1_statics s) 600000 7302250) := by
  intro l hflags _ _ p e ha hc hk s m args below hf hfit hheap happ hpre
  obtain ⟨k, o, h1, h2, h3, rfl, hF⟩ := lw_comes l hflags p e ha hc hk s m args below hf hfit hheap happ hpre
  exact ⟨k, _, h1, h2, h3, hL args s _, lw_frame hF⟩
theorem i_vc : Claimed_1_1 ∧ Claimed_1_2 := ⟨lw_limb limb_1_1 (fun args s t => by simp [limb_1_1, Cond.after, Cond.holds, Cond.value]), lw_limb limb_1_2 (fun args s t => Cond.after_iff.mpr (by
  first | (rw [show limb_1_2 = Cond.eq .result (.int 1) from rfl, Cond.eq_ints (x := 1) (y := 1) rfl rfl]; simp; done) | (simp [limb_1_2, Cond.value, Term.eval]; done)))⟩
