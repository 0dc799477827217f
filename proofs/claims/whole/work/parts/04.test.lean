def am_run : Nat → am_MD → am_C → Option am_C
  | 0, _, C => some C
  | n + 1, md, (pc, l, st, kr, h) => match am_T md pc with
    | none => none
    | some e => match am_kd e.1 with
      | 0 => match am_stp md e pc l st kr h with
        | some C' => am_run n md C'
        | none => none
      | _ => none
theorem am_t1 (h : am_H) (p w i : Int32) : am_run 3 am_m_Numbers_value (31, [(0, .ref 1), (1, .int p), (2, .int w), (3, .int i)], [], (78, 76), h) = some (36, [(0, .ref 1), (1, .int p), (2, .int w), (3, .int i)], [.ref 2, .int i], (78, 76), h) := by rfl
theorem am_t2 (h : am_H) (p w : Int32) : am_run 6 am_m_Numbers_value (24, [(0, .ref 1), (1, .int p), (2, .int w)], [], (78, 76), h) = some (31, [(0, .ref 1), (1, .int p), (2, .int w), (3, .int (w * 16 + p))], [], (78, 76), h) := by rfl
theorem am_t3 (h : am_H) (p w : Int32) : am_run 10 am_m_Numbers_value (24, [(0, .ref 1), (1, .int p), (2, .int w)], [], (78, 76), h) = some (37, [(0, .ref 1), (1, .int p), (2, .int w), (3, .int (w * 16 + p))], [.int 98, .int (w * 16 + p)], (78, 76), h) := by rfl
theorem am_t4 (h : am_H) (p w : Int32) : am_run 10 am_m_Numbers_value (24, [(0, .ref 1), (1, .int p), (2, .int w)], [], (78, 76), h) = some (37, [(0, .ref 1), (1, .int p), (2, .int w), (3, .int (w * 16 + p))], [.int 98, .int (w * 16 + p)], (78, 76), h) := by
  simp only [am_run, am_m_Numbers_value, am_i_Numbers_value, am_stp, am_kd, am_get, am_set1, am_ins, am_f1]
  rfl
