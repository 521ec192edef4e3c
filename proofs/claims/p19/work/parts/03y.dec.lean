/-! what stands in a code, byte by byte, out of pieces of it; a row an opcode -/
theorem rdb {t : ByteArray} {p m i k : Nat} {L : List UInt8} (h : (t.data.toList.drop p).take m = L) (hi : (L[i]?).map UInt8.toNat = some k) : (Reader.u1 : Decoder Nat) t (p + i) = .ok (k, p + i + 1) := by
  have h1 : ∃ x : UInt8, t.data.toList[p + i]? = some x ∧ x.toNat = k := by
    rw [← h, List.getElem?_take] at hi
    split at hi
    · rw [List.getElem?_drop] at hi
      exact Option.map_eq_some_iff.mp hi
    · cases hi
  obtain ⟨x, h2, h3⟩ := h1
  obtain ⟨hl, he⟩ := List.getElem?_eq_some_iff.mp h2
  have hs : p + i < t.size := hl
  have h4 : t[p + i].toNat = k := by rw [← h3, ← he]; rfl
  show (dite (p + i < t.size) _ _ : Decoder Nat) t (p + i) = _
  rw [dif_pos hs]
  show Except.ok (t[p + i].toNat, p + i + 1) = _
  rw [h4]
theorem dnx {t : ByteArray} {pc n k : Nat} {op : Instr} (e : (Decoder.instr pc) t pc = .ok (op, n)) (hk : n - pc = k) : decode t pc = .ok (op, k) := by
  show Except.bind ((Decoder.instr pc) t pc) _ = _
  rw [e]
  show Except.ok (op, n - pc) = _
  rw [hk]
theorem do_188_10 {t : ByteArray} {pc : Nat} (h0 : (Reader.u1 : Decoder Nat) t pc = .ok (188, pc + 1)) (h1 : (Reader.u1 : Decoder Nat) t (pc + 1) = .ok (10, pc + 2)) : decode t pc = .ok (.newarray .int, 2) := by
  refine dnx (n := pc + 2) ?_ (by omega)
  show Except.bind ((Reader.u1 : Decoder Nat) t pc) _ = _
  rw [h0]
  show Except.bind ((Reader.u1 : Decoder Nat) t (pc + 1)) _ = _
  rw [h1]
  rfl
theorem do_188_11 {t : ByteArray} {pc : Nat} (h0 : (Reader.u1 : Decoder Nat) t pc = .ok (188, pc + 1)) (h1 : (Reader.u1 : Decoder Nat) t (pc + 1) = .ok (11, pc + 2)) : decode t pc = .ok (.newarray .long, 2) := by
  refine dnx (n := pc + 2) ?_ (by omega)
  show Except.bind ((Reader.u1 : Decoder Nat) t pc) _ = _
  rw [h0]
  show Except.bind ((Reader.u1 : Decoder Nat) t (pc + 1)) _ = _
  rw [h1]
  rfl
theorem do_188_4 {t : ByteArray} {pc : Nat} (h0 : (Reader.u1 : Decoder Nat) t pc = .ok (188, pc + 1)) (h1 : (Reader.u1 : Decoder Nat) t (pc + 1) = .ok (4, pc + 2)) : decode t pc = .ok (.newarray .boolean, 2) := by
  refine dnx (n := pc + 2) ?_ (by omega)
  show Except.bind ((Reader.u1 : Decoder Nat) t pc) _ = _
  rw [h0]
  show Except.bind ((Reader.u1 : Decoder Nat) t (pc + 1)) _ = _
  rw [h1]
  rfl
theorem do_10 {t : ByteArray} {pc : Nat} (h0 : (Reader.u1 : Decoder Nat) t pc = .ok (10, pc + 1)) : decode t pc = .ok (.lconst 1, 1) := by
  refine dnx (n := pc + 1) ?_ (by omega)
  show Except.bind ((Reader.u1 : Decoder Nat) t pc) _ = _
  rw [h0]
  rfl
theorem do_100 {t : ByteArray} {pc : Nat} (h0 : (Reader.u1 : Decoder Nat) t pc = .ok (100, pc + 1)) : decode t pc = .ok (.isub, 1) := by
  refine dnx (n := pc + 1) ?_ (by omega)
  show Except.bind ((Reader.u1 : Decoder Nat) t pc) _ = _
  rw [h0]
  rfl
theorem do_104 {t : ByteArray} {pc : Nat} (h0 : (Reader.u1 : Decoder Nat) t pc = .ok (104, pc + 1)) : decode t pc = .ok (.imul, 1) := by
  refine dnx (n := pc + 1) ?_ (by omega)
  show Except.bind ((Reader.u1 : Decoder Nat) t pc) _ = _
  rw [h0]
  rfl
theorem do_108 {t : ByteArray} {pc : Nat} (h0 : (Reader.u1 : Decoder Nat) t pc = .ok (108, pc + 1)) : decode t pc = .ok (.idiv, 1) := by
  refine dnx (n := pc + 1) ?_ (by omega)
  show Except.bind ((Reader.u1 : Decoder Nat) t pc) _ = _
  rw [h0]
  rfl
theorem do_112 {t : ByteArray} {pc : Nat} (h0 : (Reader.u1 : Decoder Nat) t pc = .ok (112, pc + 1)) : decode t pc = .ok (.irem, 1) := by
  refine dnx (n := pc + 1) ?_ (by omega)
  show Except.bind ((Reader.u1 : Decoder Nat) t pc) _ = _
  rw [h0]
  rfl
theorem do_116 {t : ByteArray} {pc : Nat} (h0 : (Reader.u1 : Decoder Nat) t pc = .ok (116, pc + 1)) : decode t pc = .ok (.ineg, 1) := by
  refine dnx (n := pc + 1) ?_ (by omega)
  show Except.bind ((Reader.u1 : Decoder Nat) t pc) _ = _
  rw [h0]
  rfl
theorem do_120 {t : ByteArray} {pc : Nat} (h0 : (Reader.u1 : Decoder Nat) t pc = .ok (120, pc + 1)) : decode t pc = .ok (.ishl, 1) := by
  refine dnx (n := pc + 1) ?_ (by omega)
  show Except.bind ((Reader.u1 : Decoder Nat) t pc) _ = _
  rw [h0]
  rfl
theorem do_121 {t : ByteArray} {pc : Nat} (h0 : (Reader.u1 : Decoder Nat) t pc = .ok (121, pc + 1)) : decode t pc = .ok (.lshl, 1) := by
  refine dnx (n := pc + 1) ?_ (by omega)
  show Except.bind ((Reader.u1 : Decoder Nat) t pc) _ = _
  rw [h0]
  rfl
theorem do_122 {t : ByteArray} {pc : Nat} (h0 : (Reader.u1 : Decoder Nat) t pc = .ok (122, pc + 1)) : decode t pc = .ok (.ishr, 1) := by
  refine dnx (n := pc + 1) ?_ (by omega)
  show Except.bind ((Reader.u1 : Decoder Nat) t pc) _ = _
  rw [h0]
  rfl
theorem do_123 {t : ByteArray} {pc : Nat} (h0 : (Reader.u1 : Decoder Nat) t pc = .ok (123, pc + 1)) : decode t pc = .ok (.lshr, 1) := by
  refine dnx (n := pc + 1) ?_ (by omega)
  show Except.bind ((Reader.u1 : Decoder Nat) t pc) _ = _
  rw [h0]
  rfl
theorem do_125 {t : ByteArray} {pc : Nat} (h0 : (Reader.u1 : Decoder Nat) t pc = .ok (125, pc + 1)) : decode t pc = .ok (.lushr, 1) := by
  refine dnx (n := pc + 1) ?_ (by omega)
  show Except.bind ((Reader.u1 : Decoder Nat) t pc) _ = _
  rw [h0]
  rfl
theorem do_126 {t : ByteArray} {pc : Nat} (h0 : (Reader.u1 : Decoder Nat) t pc = .ok (126, pc + 1)) : decode t pc = .ok (.iand, 1) := by
  refine dnx (n := pc + 1) ?_ (by omega)
  show Except.bind ((Reader.u1 : Decoder Nat) t pc) _ = _
  rw [h0]
  rfl
theorem do_127 {t : ByteArray} {pc : Nat} (h0 : (Reader.u1 : Decoder Nat) t pc = .ok (127, pc + 1)) : decode t pc = .ok (.land, 1) := by
  refine dnx (n := pc + 1) ?_ (by omega)
  show Except.bind ((Reader.u1 : Decoder Nat) t pc) _ = _
  rw [h0]
  rfl
theorem do_128 {t : ByteArray} {pc : Nat} (h0 : (Reader.u1 : Decoder Nat) t pc = .ok (128, pc + 1)) : decode t pc = .ok (.ior, 1) := by
  refine dnx (n := pc + 1) ?_ (by omega)
  show Except.bind ((Reader.u1 : Decoder Nat) t pc) _ = _
  rw [h0]
  rfl
theorem do_129 {t : ByteArray} {pc : Nat} (h0 : (Reader.u1 : Decoder Nat) t pc = .ok (129, pc + 1)) : decode t pc = .ok (.lor, 1) := by
  refine dnx (n := pc + 1) ?_ (by omega)
  show Except.bind ((Reader.u1 : Decoder Nat) t pc) _ = _
  rw [h0]
  rfl
theorem do_130 {t : ByteArray} {pc : Nat} (h0 : (Reader.u1 : Decoder Nat) t pc = .ok (130, pc + 1)) : decode t pc = .ok (.ixor, 1) := by
  refine dnx (n := pc + 1) ?_ (by omega)
  show Except.bind ((Reader.u1 : Decoder Nat) t pc) _ = _
  rw [h0]
  rfl
theorem do_132 {t : ByteArray} {pc k1 k2 : Nat} {v : Int} (h0 : (Reader.u1 : Decoder Nat) t pc = .ok (132, pc + 1)) (h1 : (Reader.u1 : Decoder Nat) t (pc + 1) = .ok (k1, pc + 2)) (h2 : (Reader.u1 : Decoder Nat) t (pc + 2) = .ok (k2, pc + 3)) (hv : Reader.signed 8 k2 = v) : decode t pc = .ok (.iinc k1 v, 3) := by
  subst hv
  refine dnx (n := pc + 3) ?_ (by omega)
  show Except.bind ((Reader.u1 : Decoder Nat) t pc) _ = _
  rw [h0]
  show Except.bind ((Reader.u1 : Decoder Nat) t (pc + 1)) _ = _
  rw [h1]
  show Except.bind (Except.map _ ((Reader.u1 : Decoder Nat) t (pc + 2))) _ = _
  rw [h2]
  rfl
theorem do_133 {t : ByteArray} {pc : Nat} (h0 : (Reader.u1 : Decoder Nat) t pc = .ok (133, pc + 1)) : decode t pc = .ok (.i2l, 1) := by
  refine dnx (n := pc + 1) ?_ (by omega)
  show Except.bind ((Reader.u1 : Decoder Nat) t pc) _ = _
  rw [h0]
  rfl
theorem do_136 {t : ByteArray} {pc : Nat} (h0 : (Reader.u1 : Decoder Nat) t pc = .ok (136, pc + 1)) : decode t pc = .ok (.l2i, 1) := by
  refine dnx (n := pc + 1) ?_ (by omega)
  show Except.bind ((Reader.u1 : Decoder Nat) t pc) _ = _
  rw [h0]
  rfl
theorem do_145 {t : ByteArray} {pc : Nat} (h0 : (Reader.u1 : Decoder Nat) t pc = .ok (145, pc + 1)) : decode t pc = .ok (.i2b, 1) := by
  refine dnx (n := pc + 1) ?_ (by omega)
  show Except.bind ((Reader.u1 : Decoder Nat) t pc) _ = _
  rw [h0]
  rfl
theorem do_146 {t : ByteArray} {pc : Nat} (h0 : (Reader.u1 : Decoder Nat) t pc = .ok (146, pc + 1)) : decode t pc = .ok (.i2c, 1) := by
  refine dnx (n := pc + 1) ?_ (by omega)
  show Except.bind ((Reader.u1 : Decoder Nat) t pc) _ = _
  rw [h0]
  rfl
theorem do_147 {t : ByteArray} {pc : Nat} (h0 : (Reader.u1 : Decoder Nat) t pc = .ok (147, pc + 1)) : decode t pc = .ok (.i2s, 1) := by
  refine dnx (n := pc + 1) ?_ (by omega)
  show Except.bind ((Reader.u1 : Decoder Nat) t pc) _ = _
  rw [h0]
  rfl
theorem do_148 {t : ByteArray} {pc : Nat} (h0 : (Reader.u1 : Decoder Nat) t pc = .ok (148, pc + 1)) : decode t pc = .ok (.lcmp, 1) := by
  refine dnx (n := pc + 1) ?_ (by omega)
  show Except.bind ((Reader.u1 : Decoder Nat) t pc) _ = _
  rw [h0]
  rfl
theorem do_153 {t : ByteArray} {pc k1 k2 : Nat} {v : Int} (h0 : (Reader.u1 : Decoder Nat) t pc = .ok (153, pc + 1)) (h1 : (Reader.u1 : Decoder Nat) t (pc + 1) = .ok (k1, pc + 2)) (h2 : (Reader.u1 : Decoder Nat) t (pc + 2) = .ok (k2, pc + 3)) (hv : Reader.signed 16 (k1 * 256 + k2) = v) : decode t pc = .ok (.ifCond .eq v, 3) := by
  subst hv
  refine dnx (n := pc + 3) ?_ (by omega)
  show Except.bind ((Reader.u1 : Decoder Nat) t pc) _ = _
  rw [h0]
  show Except.bind (Except.map _ (Except.bind ((Reader.u1 : Decoder Nat) t (pc + 1)) _)) _ = _
  rw [h1]
  show Except.bind (Except.map _ (Except.bind ((Reader.u1 : Decoder Nat) t (pc + 2)) _)) _ = _
  rw [h2]
  rfl
theorem do_154 {t : ByteArray} {pc k1 k2 : Nat} {v : Int} (h0 : (Reader.u1 : Decoder Nat) t pc = .ok (154, pc + 1)) (h1 : (Reader.u1 : Decoder Nat) t (pc + 1) = .ok (k1, pc + 2)) (h2 : (Reader.u1 : Decoder Nat) t (pc + 2) = .ok (k2, pc + 3)) (hv : Reader.signed 16 (k1 * 256 + k2) = v) : decode t pc = .ok (.ifCond .ne v, 3) := by
  subst hv
  refine dnx (n := pc + 3) ?_ (by omega)
  show Except.bind ((Reader.u1 : Decoder Nat) t pc) _ = _
  rw [h0]
  show Except.bind (Except.map _ (Except.bind ((Reader.u1 : Decoder Nat) t (pc + 1)) _)) _ = _
  rw [h1]
  show Except.bind (Except.map _ (Except.bind ((Reader.u1 : Decoder Nat) t (pc + 2)) _)) _ = _
  rw [h2]
  rfl
theorem do_155 {t : ByteArray} {pc k1 k2 : Nat} {v : Int} (h0 : (Reader.u1 : Decoder Nat) t pc = .ok (155, pc + 1)) (h1 : (Reader.u1 : Decoder Nat) t (pc + 1) = .ok (k1, pc + 2)) (h2 : (Reader.u1 : Decoder Nat) t (pc + 2) = .ok (k2, pc + 3)) (hv : Reader.signed 16 (k1 * 256 + k2) = v) : decode t pc = .ok (.ifCond .lt v, 3) := by
  subst hv
  refine dnx (n := pc + 3) ?_ (by omega)
  show Except.bind ((Reader.u1 : Decoder Nat) t pc) _ = _
  rw [h0]
  show Except.bind (Except.map _ (Except.bind ((Reader.u1 : Decoder Nat) t (pc + 1)) _)) _ = _
  rw [h1]
  show Except.bind (Except.map _ (Except.bind ((Reader.u1 : Decoder Nat) t (pc + 2)) _)) _ = _
  rw [h2]
  rfl
theorem do_156 {t : ByteArray} {pc k1 k2 : Nat} {v : Int} (h0 : (Reader.u1 : Decoder Nat) t pc = .ok (156, pc + 1)) (h1 : (Reader.u1 : Decoder Nat) t (pc + 1) = .ok (k1, pc + 2)) (h2 : (Reader.u1 : Decoder Nat) t (pc + 2) = .ok (k2, pc + 3)) (hv : Reader.signed 16 (k1 * 256 + k2) = v) : decode t pc = .ok (.ifCond .ge v, 3) := by
  subst hv
  refine dnx (n := pc + 3) ?_ (by omega)
  show Except.bind ((Reader.u1 : Decoder Nat) t pc) _ = _
  rw [h0]
  show Except.bind (Except.map _ (Except.bind ((Reader.u1 : Decoder Nat) t (pc + 1)) _)) _ = _
  rw [h1]
  show Except.bind (Except.map _ (Except.bind ((Reader.u1 : Decoder Nat) t (pc + 2)) _)) _ = _
  rw [h2]
  rfl
theorem do_157 {t : ByteArray} {pc k1 k2 : Nat} {v : Int} (h0 : (Reader.u1 : Decoder Nat) t pc = .ok (157, pc + 1)) (h1 : (Reader.u1 : Decoder Nat) t (pc + 1) = .ok (k1, pc + 2)) (h2 : (Reader.u1 : Decoder Nat) t (pc + 2) = .ok (k2, pc + 3)) (hv : Reader.signed 16 (k1 * 256 + k2) = v) : decode t pc = .ok (.ifCond .gt v, 3) := by
  subst hv
  refine dnx (n := pc + 3) ?_ (by omega)
  show Except.bind ((Reader.u1 : Decoder Nat) t pc) _ = _
  rw [h0]
  show Except.bind (Except.map _ (Except.bind ((Reader.u1 : Decoder Nat) t (pc + 1)) _)) _ = _
  rw [h1]
  show Except.bind (Except.map _ (Except.bind ((Reader.u1 : Decoder Nat) t (pc + 2)) _)) _ = _
  rw [h2]
  rfl
theorem do_158 {t : ByteArray} {pc k1 k2 : Nat} {v : Int} (h0 : (Reader.u1 : Decoder Nat) t pc = .ok (158, pc + 1)) (h1 : (Reader.u1 : Decoder Nat) t (pc + 1) = .ok (k1, pc + 2)) (h2 : (Reader.u1 : Decoder Nat) t (pc + 2) = .ok (k2, pc + 3)) (hv : Reader.signed 16 (k1 * 256 + k2) = v) : decode t pc = .ok (.ifCond .le v, 3) := by
  subst hv
  refine dnx (n := pc + 3) ?_ (by omega)
  show Except.bind ((Reader.u1 : Decoder Nat) t pc) _ = _
  rw [h0]
  show Except.bind (Except.map _ (Except.bind ((Reader.u1 : Decoder Nat) t (pc + 1)) _)) _ = _
  rw [h1]
  show Except.bind (Except.map _ (Except.bind ((Reader.u1 : Decoder Nat) t (pc + 2)) _)) _ = _
  rw [h2]
  rfl
theorem do_159 {t : ByteArray} {pc k1 k2 : Nat} {v : Int} (h0 : (Reader.u1 : Decoder Nat) t pc = .ok (159, pc + 1)) (h1 : (Reader.u1 : Decoder Nat) t (pc + 1) = .ok (k1, pc + 2)) (h2 : (Reader.u1 : Decoder Nat) t (pc + 2) = .ok (k2, pc + 3)) (hv : Reader.signed 16 (k1 * 256 + k2) = v) : decode t pc = .ok (.if_icmp .eq v, 3) := by
  subst hv
  refine dnx (n := pc + 3) ?_ (by omega)
  show Except.bind ((Reader.u1 : Decoder Nat) t pc) _ = _
  rw [h0]
  show Except.bind (Except.map _ (Except.bind ((Reader.u1 : Decoder Nat) t (pc + 1)) _)) _ = _
  rw [h1]
  show Except.bind (Except.map _ (Except.bind ((Reader.u1 : Decoder Nat) t (pc + 2)) _)) _ = _
  rw [h2]
  rfl
theorem do_16 {t : ByteArray} {pc k1 : Nat} {v : Int} (h0 : (Reader.u1 : Decoder Nat) t pc = .ok (16, pc + 1)) (h1 : (Reader.u1 : Decoder Nat) t (pc + 1) = .ok (k1, pc + 2)) (hv : Reader.signed 8 k1 = v) : decode t pc = .ok (.bipush v, 2) := by
  subst hv
  refine dnx (n := pc + 2) ?_ (by omega)
  show Except.bind ((Reader.u1 : Decoder Nat) t pc) _ = _
  rw [h0]
  show Except.bind (Except.map _ ((Reader.u1 : Decoder Nat) t (pc + 1))) _ = _
  rw [h1]
  rfl
theorem do_160 {t : ByteArray} {pc k1 k2 : Nat} {v : Int} (h0 : (Reader.u1 : Decoder Nat) t pc = .ok (160, pc + 1)) (h1 : (Reader.u1 : Decoder Nat) t (pc + 1) = .ok (k1, pc + 2)) (h2 : (Reader.u1 : Decoder Nat) t (pc + 2) = .ok (k2, pc + 3)) (hv : Reader.signed 16 (k1 * 256 + k2) = v) : decode t pc = .ok (.if_icmp .ne v, 3) := by
  subst hv
  refine dnx (n := pc + 3) ?_ (by omega)
  show Except.bind ((Reader.u1 : Decoder Nat) t pc) _ = _
  rw [h0]
  show Except.bind (Except.map _ (Except.bind ((Reader.u1 : Decoder Nat) t (pc + 1)) _)) _ = _
  rw [h1]
  show Except.bind (Except.map _ (Except.bind ((Reader.u1 : Decoder Nat) t (pc + 2)) _)) _ = _
  rw [h2]
  rfl
theorem do_161 {t : ByteArray} {pc k1 k2 : Nat} {v : Int} (h0 : (Reader.u1 : Decoder Nat) t pc = .ok (161, pc + 1)) (h1 : (Reader.u1 : Decoder Nat) t (pc + 1) = .ok (k1, pc + 2)) (h2 : (Reader.u1 : Decoder Nat) t (pc + 2) = .ok (k2, pc + 3)) (hv : Reader.signed 16 (k1 * 256 + k2) = v) : decode t pc = .ok (.if_icmp .lt v, 3) := by
  subst hv
  refine dnx (n := pc + 3) ?_ (by omega)
  show Except.bind ((Reader.u1 : Decoder Nat) t pc) _ = _
  rw [h0]
  show Except.bind (Except.map _ (Except.bind ((Reader.u1 : Decoder Nat) t (pc + 1)) _)) _ = _
  rw [h1]
  show Except.bind (Except.map _ (Except.bind ((Reader.u1 : Decoder Nat) t (pc + 2)) _)) _ = _
  rw [h2]
  rfl
theorem do_162 {t : ByteArray} {pc k1 k2 : Nat} {v : Int} (h0 : (Reader.u1 : Decoder Nat) t pc = .ok (162, pc + 1)) (h1 : (Reader.u1 : Decoder Nat) t (pc + 1) = .ok (k1, pc + 2)) (h2 : (Reader.u1 : Decoder Nat) t (pc + 2) = .ok (k2, pc + 3)) (hv : Reader.signed 16 (k1 * 256 + k2) = v) : decode t pc = .ok (.if_icmp .ge v, 3) := by
  subst hv
  refine dnx (n := pc + 3) ?_ (by omega)
  show Except.bind ((Reader.u1 : Decoder Nat) t pc) _ = _
  rw [h0]
  show Except.bind (Except.map _ (Except.bind ((Reader.u1 : Decoder Nat) t (pc + 1)) _)) _ = _
  rw [h1]
  show Except.bind (Except.map _ (Except.bind ((Reader.u1 : Decoder Nat) t (pc + 2)) _)) _ = _
  rw [h2]
  rfl
theorem do_163 {t : ByteArray} {pc k1 k2 : Nat} {v : Int} (h0 : (Reader.u1 : Decoder Nat) t pc = .ok (163, pc + 1)) (h1 : (Reader.u1 : Decoder Nat) t (pc + 1) = .ok (k1, pc + 2)) (h2 : (Reader.u1 : Decoder Nat) t (pc + 2) = .ok (k2, pc + 3)) (hv : Reader.signed 16 (k1 * 256 + k2) = v) : decode t pc = .ok (.if_icmp .gt v, 3) := by
  subst hv
  refine dnx (n := pc + 3) ?_ (by omega)
  show Except.bind ((Reader.u1 : Decoder Nat) t pc) _ = _
  rw [h0]
  show Except.bind (Except.map _ (Except.bind ((Reader.u1 : Decoder Nat) t (pc + 1)) _)) _ = _
  rw [h1]
  show Except.bind (Except.map _ (Except.bind ((Reader.u1 : Decoder Nat) t (pc + 2)) _)) _ = _
  rw [h2]
  rfl
theorem do_164 {t : ByteArray} {pc k1 k2 : Nat} {v : Int} (h0 : (Reader.u1 : Decoder Nat) t pc = .ok (164, pc + 1)) (h1 : (Reader.u1 : Decoder Nat) t (pc + 1) = .ok (k1, pc + 2)) (h2 : (Reader.u1 : Decoder Nat) t (pc + 2) = .ok (k2, pc + 3)) (hv : Reader.signed 16 (k1 * 256 + k2) = v) : decode t pc = .ok (.if_icmp .le v, 3) := by
  subst hv
  refine dnx (n := pc + 3) ?_ (by omega)
  show Except.bind ((Reader.u1 : Decoder Nat) t pc) _ = _
  rw [h0]
  show Except.bind (Except.map _ (Except.bind ((Reader.u1 : Decoder Nat) t (pc + 1)) _)) _ = _
  rw [h1]
  show Except.bind (Except.map _ (Except.bind ((Reader.u1 : Decoder Nat) t (pc + 2)) _)) _ = _
  rw [h2]
  rfl
theorem do_167 {t : ByteArray} {pc k1 k2 : Nat} {v : Int} (h0 : (Reader.u1 : Decoder Nat) t pc = .ok (167, pc + 1)) (h1 : (Reader.u1 : Decoder Nat) t (pc + 1) = .ok (k1, pc + 2)) (h2 : (Reader.u1 : Decoder Nat) t (pc + 2) = .ok (k2, pc + 3)) (hv : Reader.signed 16 (k1 * 256 + k2) = v) : decode t pc = .ok (.goto v, 3) := by
  subst hv
  refine dnx (n := pc + 3) ?_ (by omega)
  show Except.bind ((Reader.u1 : Decoder Nat) t pc) _ = _
  rw [h0]
  show Except.bind (Except.map _ (Except.bind ((Reader.u1 : Decoder Nat) t (pc + 1)) _)) _ = _
  rw [h1]
  show Except.bind (Except.map _ (Except.bind ((Reader.u1 : Decoder Nat) t (pc + 2)) _)) _ = _
  rw [h2]
  rfl
theorem do_17 {t : ByteArray} {pc k1 k2 : Nat} {v : Int} (h0 : (Reader.u1 : Decoder Nat) t pc = .ok (17, pc + 1)) (h1 : (Reader.u1 : Decoder Nat) t (pc + 1) = .ok (k1, pc + 2)) (h2 : (Reader.u1 : Decoder Nat) t (pc + 2) = .ok (k2, pc + 3)) (hv : Reader.signed 16 (k1 * 256 + k2) = v) : decode t pc = .ok (.sipush v, 3) := by
  subst hv
  refine dnx (n := pc + 3) ?_ (by omega)
  show Except.bind ((Reader.u1 : Decoder Nat) t pc) _ = _
  rw [h0]
  show Except.bind (Except.map _ (Except.bind ((Reader.u1 : Decoder Nat) t (pc + 1)) _)) _ = _
  rw [h1]
  show Except.bind (Except.map _ (Except.bind ((Reader.u1 : Decoder Nat) t (pc + 2)) _)) _ = _
  rw [h2]
  rfl
theorem do_172 {t : ByteArray} {pc : Nat} (h0 : (Reader.u1 : Decoder Nat) t pc = .ok (172, pc + 1)) : decode t pc = .ok (.ireturn, 1) := by
  refine dnx (n := pc + 1) ?_ (by omega)
  show Except.bind ((Reader.u1 : Decoder Nat) t pc) _ = _
  rw [h0]
  rfl
theorem do_177 {t : ByteArray} {pc : Nat} (h0 : (Reader.u1 : Decoder Nat) t pc = .ok (177, pc + 1)) : decode t pc = .ok (.return_, 1) := by
  refine dnx (n := pc + 1) ?_ (by omega)
  show Except.bind ((Reader.u1 : Decoder Nat) t pc) _ = _
  rw [h0]
  rfl
theorem do_178 {t : ByteArray} {pc k1 k2 v : Nat} (h0 : (Reader.u1 : Decoder Nat) t pc = .ok (178, pc + 1)) (h1 : (Reader.u1 : Decoder Nat) t (pc + 1) = .ok (k1, pc + 2)) (h2 : (Reader.u1 : Decoder Nat) t (pc + 2) = .ok (k2, pc + 3)) (hv : k1 * 256 + k2 = v) : decode t pc = .ok (.getstatic v, 3) := by
  subst hv
  refine dnx (n := pc + 3) ?_ (by omega)
  show Except.bind ((Reader.u1 : Decoder Nat) t pc) _ = _
  rw [h0]
  show Except.bind (Except.bind ((Reader.u1 : Decoder Nat) t (pc + 1)) _) _ = _
  rw [h1]
  show Except.bind (Except.bind ((Reader.u1 : Decoder Nat) t (pc + 2)) _) _ = _
  rw [h2]
  rfl
theorem do_18 {t : ByteArray} {pc k1 : Nat} (h0 : (Reader.u1 : Decoder Nat) t pc = .ok (18, pc + 1)) (h1 : (Reader.u1 : Decoder Nat) t (pc + 1) = .ok (k1, pc + 2)) : decode t pc = .ok (.ldc k1, 2) := by
  refine dnx (n := pc + 2) ?_ (by omega)
  show Except.bind ((Reader.u1 : Decoder Nat) t pc) _ = _
  rw [h0]
  show Except.bind ((Reader.u1 : Decoder Nat) t (pc + 1)) _ = _
  rw [h1]
  rfl
theorem do_180 {t : ByteArray} {pc k1 k2 v : Nat} (h0 : (Reader.u1 : Decoder Nat) t pc = .ok (180, pc + 1)) (h1 : (Reader.u1 : Decoder Nat) t (pc + 1) = .ok (k1, pc + 2)) (h2 : (Reader.u1 : Decoder Nat) t (pc + 2) = .ok (k2, pc + 3)) (hv : k1 * 256 + k2 = v) : decode t pc = .ok (.getfield v, 3) := by
  subst hv
  refine dnx (n := pc + 3) ?_ (by omega)
  show Except.bind ((Reader.u1 : Decoder Nat) t pc) _ = _
  rw [h0]
  show Except.bind (Except.bind ((Reader.u1 : Decoder Nat) t (pc + 1)) _) _ = _
  rw [h1]
  show Except.bind (Except.bind ((Reader.u1 : Decoder Nat) t (pc + 2)) _) _ = _
  rw [h2]
  rfl
theorem do_181 {t : ByteArray} {pc k1 k2 v : Nat} (h0 : (Reader.u1 : Decoder Nat) t pc = .ok (181, pc + 1)) (h1 : (Reader.u1 : Decoder Nat) t (pc + 1) = .ok (k1, pc + 2)) (h2 : (Reader.u1 : Decoder Nat) t (pc + 2) = .ok (k2, pc + 3)) (hv : k1 * 256 + k2 = v) : decode t pc = .ok (.putfield v, 3) := by
  subst hv
  refine dnx (n := pc + 3) ?_ (by omega)
  show Except.bind ((Reader.u1 : Decoder Nat) t pc) _ = _
  rw [h0]
  show Except.bind (Except.bind ((Reader.u1 : Decoder Nat) t (pc + 1)) _) _ = _
  rw [h1]
  show Except.bind (Except.bind ((Reader.u1 : Decoder Nat) t (pc + 2)) _) _ = _
  rw [h2]
  rfl
theorem do_182 {t : ByteArray} {pc k1 k2 v : Nat} (h0 : (Reader.u1 : Decoder Nat) t pc = .ok (182, pc + 1)) (h1 : (Reader.u1 : Decoder Nat) t (pc + 1) = .ok (k1, pc + 2)) (h2 : (Reader.u1 : Decoder Nat) t (pc + 2) = .ok (k2, pc + 3)) (hv : k1 * 256 + k2 = v) : decode t pc = .ok (.invokevirtual v, 3) := by
  subst hv
  refine dnx (n := pc + 3) ?_ (by omega)
  show Except.bind ((Reader.u1 : Decoder Nat) t pc) _ = _
  rw [h0]
  show Except.bind (Except.bind ((Reader.u1 : Decoder Nat) t (pc + 1)) _) _ = _
  rw [h1]
  show Except.bind (Except.bind ((Reader.u1 : Decoder Nat) t (pc + 2)) _) _ = _
  rw [h2]
  rfl
theorem do_183 {t : ByteArray} {pc k1 k2 v : Nat} (h0 : (Reader.u1 : Decoder Nat) t pc = .ok (183, pc + 1)) (h1 : (Reader.u1 : Decoder Nat) t (pc + 1) = .ok (k1, pc + 2)) (h2 : (Reader.u1 : Decoder Nat) t (pc + 2) = .ok (k2, pc + 3)) (hv : k1 * 256 + k2 = v) : decode t pc = .ok (.invokespecial v, 3) := by
  subst hv
  refine dnx (n := pc + 3) ?_ (by omega)
  show Except.bind ((Reader.u1 : Decoder Nat) t pc) _ = _
  rw [h0]
  show Except.bind (Except.bind ((Reader.u1 : Decoder Nat) t (pc + 1)) _) _ = _
  rw [h1]
  show Except.bind (Except.bind ((Reader.u1 : Decoder Nat) t (pc + 2)) _) _ = _
  rw [h2]
  rfl
theorem do_184 {t : ByteArray} {pc k1 k2 v : Nat} (h0 : (Reader.u1 : Decoder Nat) t pc = .ok (184, pc + 1)) (h1 : (Reader.u1 : Decoder Nat) t (pc + 1) = .ok (k1, pc + 2)) (h2 : (Reader.u1 : Decoder Nat) t (pc + 2) = .ok (k2, pc + 3)) (hv : k1 * 256 + k2 = v) : decode t pc = .ok (.invokestatic v, 3) := by
  subst hv
  refine dnx (n := pc + 3) ?_ (by omega)
  show Except.bind ((Reader.u1 : Decoder Nat) t pc) _ = _
  rw [h0]
  show Except.bind (Except.bind ((Reader.u1 : Decoder Nat) t (pc + 1)) _) _ = _
  rw [h1]
  show Except.bind (Except.bind ((Reader.u1 : Decoder Nat) t (pc + 2)) _) _ = _
  rw [h2]
  rfl
theorem do_187 {t : ByteArray} {pc k1 k2 v : Nat} (h0 : (Reader.u1 : Decoder Nat) t pc = .ok (187, pc + 1)) (h1 : (Reader.u1 : Decoder Nat) t (pc + 1) = .ok (k1, pc + 2)) (h2 : (Reader.u1 : Decoder Nat) t (pc + 2) = .ok (k2, pc + 3)) (hv : k1 * 256 + k2 = v) : decode t pc = .ok (.new v, 3) := by
  subst hv
  refine dnx (n := pc + 3) ?_ (by omega)
  show Except.bind ((Reader.u1 : Decoder Nat) t pc) _ = _
  rw [h0]
  show Except.bind (Except.bind ((Reader.u1 : Decoder Nat) t (pc + 1)) _) _ = _
  rw [h1]
  show Except.bind (Except.bind ((Reader.u1 : Decoder Nat) t (pc + 2)) _) _ = _
  rw [h2]
  rfl
theorem do_189 {t : ByteArray} {pc k1 k2 v : Nat} (h0 : (Reader.u1 : Decoder Nat) t pc = .ok (189, pc + 1)) (h1 : (Reader.u1 : Decoder Nat) t (pc + 1) = .ok (k1, pc + 2)) (h2 : (Reader.u1 : Decoder Nat) t (pc + 2) = .ok (k2, pc + 3)) (hv : k1 * 256 + k2 = v) : decode t pc = .ok (.anewarray v, 3) := by
  subst hv
  refine dnx (n := pc + 3) ?_ (by omega)
  show Except.bind ((Reader.u1 : Decoder Nat) t pc) _ = _
  rw [h0]
  show Except.bind (Except.bind ((Reader.u1 : Decoder Nat) t (pc + 1)) _) _ = _
  rw [h1]
  show Except.bind (Except.bind ((Reader.u1 : Decoder Nat) t (pc + 2)) _) _ = _
  rw [h2]
  rfl
theorem do_19 {t : ByteArray} {pc k1 k2 v : Nat} (h0 : (Reader.u1 : Decoder Nat) t pc = .ok (19, pc + 1)) (h1 : (Reader.u1 : Decoder Nat) t (pc + 1) = .ok (k1, pc + 2)) (h2 : (Reader.u1 : Decoder Nat) t (pc + 2) = .ok (k2, pc + 3)) (hv : k1 * 256 + k2 = v) : decode t pc = .ok (.ldc_w v, 3) := by
  subst hv
  refine dnx (n := pc + 3) ?_ (by omega)
  show Except.bind ((Reader.u1 : Decoder Nat) t pc) _ = _
  rw [h0]
  show Except.bind (Except.bind ((Reader.u1 : Decoder Nat) t (pc + 1)) _) _ = _
  rw [h1]
  show Except.bind (Except.bind ((Reader.u1 : Decoder Nat) t (pc + 2)) _) _ = _
  rw [h2]
  rfl
theorem do_190 {t : ByteArray} {pc : Nat} (h0 : (Reader.u1 : Decoder Nat) t pc = .ok (190, pc + 1)) : decode t pc = .ok (.arraylength, 1) := by
  refine dnx (n := pc + 1) ?_ (by omega)
  show Except.bind ((Reader.u1 : Decoder Nat) t pc) _ = _
  rw [h0]
  rfl
theorem do_2 {t : ByteArray} {pc : Nat} (h0 : (Reader.u1 : Decoder Nat) t pc = .ok (2, pc + 1)) : decode t pc = .ok (.iconst (-1), 1) := by
  refine dnx (n := pc + 1) ?_ (by omega)
  show Except.bind ((Reader.u1 : Decoder Nat) t pc) _ = _
  rw [h0]
  rfl
theorem do_20 {t : ByteArray} {pc k1 k2 v : Nat} (h0 : (Reader.u1 : Decoder Nat) t pc = .ok (20, pc + 1)) (h1 : (Reader.u1 : Decoder Nat) t (pc + 1) = .ok (k1, pc + 2)) (h2 : (Reader.u1 : Decoder Nat) t (pc + 2) = .ok (k2, pc + 3)) (hv : k1 * 256 + k2 = v) : decode t pc = .ok (.ldc2_w v, 3) := by
  subst hv
  refine dnx (n := pc + 3) ?_ (by omega)
  show Except.bind ((Reader.u1 : Decoder Nat) t pc) _ = _
  rw [h0]
  show Except.bind (Except.bind ((Reader.u1 : Decoder Nat) t (pc + 1)) _) _ = _
  rw [h1]
  show Except.bind (Except.bind ((Reader.u1 : Decoder Nat) t (pc + 2)) _) _ = _
  rw [h2]
  rfl
theorem do_21 {t : ByteArray} {pc k1 : Nat} (h0 : (Reader.u1 : Decoder Nat) t pc = .ok (21, pc + 1)) (h1 : (Reader.u1 : Decoder Nat) t (pc + 1) = .ok (k1, pc + 2)) : decode t pc = .ok (.iload k1, 2) := by
  refine dnx (n := pc + 2) ?_ (by omega)
  show Except.bind ((Reader.u1 : Decoder Nat) t pc) _ = _
  rw [h0]
  show Except.bind ((Reader.u1 : Decoder Nat) t (pc + 1)) _ = _
  rw [h1]
  rfl
theorem do_22 {t : ByteArray} {pc k1 : Nat} (h0 : (Reader.u1 : Decoder Nat) t pc = .ok (22, pc + 1)) (h1 : (Reader.u1 : Decoder Nat) t (pc + 1) = .ok (k1, pc + 2)) : decode t pc = .ok (.lload k1, 2) := by
  refine dnx (n := pc + 2) ?_ (by omega)
  show Except.bind ((Reader.u1 : Decoder Nat) t pc) _ = _
  rw [h0]
  show Except.bind ((Reader.u1 : Decoder Nat) t (pc + 1)) _ = _
  rw [h1]
  rfl
theorem do_25 {t : ByteArray} {pc k1 : Nat} (h0 : (Reader.u1 : Decoder Nat) t pc = .ok (25, pc + 1)) (h1 : (Reader.u1 : Decoder Nat) t (pc + 1) = .ok (k1, pc + 2)) : decode t pc = .ok (.aload k1, 2) := by
  refine dnx (n := pc + 2) ?_ (by omega)
  show Except.bind ((Reader.u1 : Decoder Nat) t pc) _ = _
  rw [h0]
  show Except.bind ((Reader.u1 : Decoder Nat) t (pc + 1)) _ = _
  rw [h1]
  rfl
theorem do_26 {t : ByteArray} {pc : Nat} (h0 : (Reader.u1 : Decoder Nat) t pc = .ok (26, pc + 1)) : decode t pc = .ok (.iload_n 0, 1) := by
  refine dnx (n := pc + 1) ?_ (by omega)
  show Except.bind ((Reader.u1 : Decoder Nat) t pc) _ = _
  rw [h0]
  rfl
theorem do_27 {t : ByteArray} {pc : Nat} (h0 : (Reader.u1 : Decoder Nat) t pc = .ok (27, pc + 1)) : decode t pc = .ok (.iload_n 1, 1) := by
  refine dnx (n := pc + 1) ?_ (by omega)
  show Except.bind ((Reader.u1 : Decoder Nat) t pc) _ = _
  rw [h0]
  rfl
theorem do_28 {t : ByteArray} {pc : Nat} (h0 : (Reader.u1 : Decoder Nat) t pc = .ok (28, pc + 1)) : decode t pc = .ok (.iload_n 2, 1) := by
  refine dnx (n := pc + 1) ?_ (by omega)
  show Except.bind ((Reader.u1 : Decoder Nat) t pc) _ = _
  rw [h0]
  rfl
theorem do_29 {t : ByteArray} {pc : Nat} (h0 : (Reader.u1 : Decoder Nat) t pc = .ok (29, pc + 1)) : decode t pc = .ok (.iload_n 3, 1) := by
  refine dnx (n := pc + 1) ?_ (by omega)
  show Except.bind ((Reader.u1 : Decoder Nat) t pc) _ = _
  rw [h0]
  rfl
theorem do_3 {t : ByteArray} {pc : Nat} (h0 : (Reader.u1 : Decoder Nat) t pc = .ok (3, pc + 1)) : decode t pc = .ok (.iconst 0, 1) := by
  refine dnx (n := pc + 1) ?_ (by omega)
  show Except.bind ((Reader.u1 : Decoder Nat) t pc) _ = _
  rw [h0]
  rfl
theorem do_31 {t : ByteArray} {pc : Nat} (h0 : (Reader.u1 : Decoder Nat) t pc = .ok (31, pc + 1)) : decode t pc = .ok (.lload_n 1, 1) := by
  refine dnx (n := pc + 1) ?_ (by omega)
  show Except.bind ((Reader.u1 : Decoder Nat) t pc) _ = _
  rw [h0]
  rfl
theorem do_4 {t : ByteArray} {pc : Nat} (h0 : (Reader.u1 : Decoder Nat) t pc = .ok (4, pc + 1)) : decode t pc = .ok (.iconst 1, 1) := by
  refine dnx (n := pc + 1) ?_ (by omega)
  show Except.bind ((Reader.u1 : Decoder Nat) t pc) _ = _
  rw [h0]
  rfl
theorem do_42 {t : ByteArray} {pc : Nat} (h0 : (Reader.u1 : Decoder Nat) t pc = .ok (42, pc + 1)) : decode t pc = .ok (.aload_n 0, 1) := by
  refine dnx (n := pc + 1) ?_ (by omega)
  show Except.bind ((Reader.u1 : Decoder Nat) t pc) _ = _
  rw [h0]
  rfl
theorem do_43 {t : ByteArray} {pc : Nat} (h0 : (Reader.u1 : Decoder Nat) t pc = .ok (43, pc + 1)) : decode t pc = .ok (.aload_n 1, 1) := by
  refine dnx (n := pc + 1) ?_ (by omega)
  show Except.bind ((Reader.u1 : Decoder Nat) t pc) _ = _
  rw [h0]
  rfl
theorem do_44 {t : ByteArray} {pc : Nat} (h0 : (Reader.u1 : Decoder Nat) t pc = .ok (44, pc + 1)) : decode t pc = .ok (.aload_n 2, 1) := by
  refine dnx (n := pc + 1) ?_ (by omega)
  show Except.bind ((Reader.u1 : Decoder Nat) t pc) _ = _
  rw [h0]
  rfl
theorem do_45 {t : ByteArray} {pc : Nat} (h0 : (Reader.u1 : Decoder Nat) t pc = .ok (45, pc + 1)) : decode t pc = .ok (.aload_n 3, 1) := by
  refine dnx (n := pc + 1) ?_ (by omega)
  show Except.bind ((Reader.u1 : Decoder Nat) t pc) _ = _
  rw [h0]
  rfl
theorem do_46 {t : ByteArray} {pc : Nat} (h0 : (Reader.u1 : Decoder Nat) t pc = .ok (46, pc + 1)) : decode t pc = .ok (.iaload, 1) := by
  refine dnx (n := pc + 1) ?_ (by omega)
  show Except.bind ((Reader.u1 : Decoder Nat) t pc) _ = _
  rw [h0]
  rfl
theorem do_47 {t : ByteArray} {pc : Nat} (h0 : (Reader.u1 : Decoder Nat) t pc = .ok (47, pc + 1)) : decode t pc = .ok (.laload, 1) := by
  refine dnx (n := pc + 1) ?_ (by omega)
  show Except.bind ((Reader.u1 : Decoder Nat) t pc) _ = _
  rw [h0]
  rfl
theorem do_5 {t : ByteArray} {pc : Nat} (h0 : (Reader.u1 : Decoder Nat) t pc = .ok (5, pc + 1)) : decode t pc = .ok (.iconst 2, 1) := by
  refine dnx (n := pc + 1) ?_ (by omega)
  show Except.bind ((Reader.u1 : Decoder Nat) t pc) _ = _
  rw [h0]
  rfl
theorem do_50 {t : ByteArray} {pc : Nat} (h0 : (Reader.u1 : Decoder Nat) t pc = .ok (50, pc + 1)) : decode t pc = .ok (.aaload, 1) := by
  refine dnx (n := pc + 1) ?_ (by omega)
  show Except.bind ((Reader.u1 : Decoder Nat) t pc) _ = _
  rw [h0]
  rfl
theorem do_51 {t : ByteArray} {pc : Nat} (h0 : (Reader.u1 : Decoder Nat) t pc = .ok (51, pc + 1)) : decode t pc = .ok (.baload, 1) := by
  refine dnx (n := pc + 1) ?_ (by omega)
  show Except.bind ((Reader.u1 : Decoder Nat) t pc) _ = _
  rw [h0]
  rfl
theorem do_54 {t : ByteArray} {pc k1 : Nat} (h0 : (Reader.u1 : Decoder Nat) t pc = .ok (54, pc + 1)) (h1 : (Reader.u1 : Decoder Nat) t (pc + 1) = .ok (k1, pc + 2)) : decode t pc = .ok (.istore k1, 2) := by
  refine dnx (n := pc + 2) ?_ (by omega)
  show Except.bind ((Reader.u1 : Decoder Nat) t pc) _ = _
  rw [h0]
  show Except.bind ((Reader.u1 : Decoder Nat) t (pc + 1)) _ = _
  rw [h1]
  rfl
theorem do_55 {t : ByteArray} {pc k1 : Nat} (h0 : (Reader.u1 : Decoder Nat) t pc = .ok (55, pc + 1)) (h1 : (Reader.u1 : Decoder Nat) t (pc + 1) = .ok (k1, pc + 2)) : decode t pc = .ok (.lstore k1, 2) := by
  refine dnx (n := pc + 2) ?_ (by omega)
  show Except.bind ((Reader.u1 : Decoder Nat) t pc) _ = _
  rw [h0]
  show Except.bind ((Reader.u1 : Decoder Nat) t (pc + 1)) _ = _
  rw [h1]
  rfl
theorem do_58 {t : ByteArray} {pc k1 : Nat} (h0 : (Reader.u1 : Decoder Nat) t pc = .ok (58, pc + 1)) (h1 : (Reader.u1 : Decoder Nat) t (pc + 1) = .ok (k1, pc + 2)) : decode t pc = .ok (.astore k1, 2) := by
  refine dnx (n := pc + 2) ?_ (by omega)
  show Except.bind ((Reader.u1 : Decoder Nat) t pc) _ = _
  rw [h0]
  show Except.bind ((Reader.u1 : Decoder Nat) t (pc + 1)) _ = _
  rw [h1]
  rfl
theorem do_6 {t : ByteArray} {pc : Nat} (h0 : (Reader.u1 : Decoder Nat) t pc = .ok (6, pc + 1)) : decode t pc = .ok (.iconst 3, 1) := by
  refine dnx (n := pc + 1) ?_ (by omega)
  show Except.bind ((Reader.u1 : Decoder Nat) t pc) _ = _
  rw [h0]
  rfl
theorem do_60 {t : ByteArray} {pc : Nat} (h0 : (Reader.u1 : Decoder Nat) t pc = .ok (60, pc + 1)) : decode t pc = .ok (.istore_n 1, 1) := by
  refine dnx (n := pc + 1) ?_ (by omega)
  show Except.bind ((Reader.u1 : Decoder Nat) t pc) _ = _
  rw [h0]
  rfl
theorem do_61 {t : ByteArray} {pc : Nat} (h0 : (Reader.u1 : Decoder Nat) t pc = .ok (61, pc + 1)) : decode t pc = .ok (.istore_n 2, 1) := by
  refine dnx (n := pc + 1) ?_ (by omega)
  show Except.bind ((Reader.u1 : Decoder Nat) t pc) _ = _
  rw [h0]
  rfl
theorem do_62 {t : ByteArray} {pc : Nat} (h0 : (Reader.u1 : Decoder Nat) t pc = .ok (62, pc + 1)) : decode t pc = .ok (.istore_n 3, 1) := by
  refine dnx (n := pc + 1) ?_ (by omega)
  show Except.bind ((Reader.u1 : Decoder Nat) t pc) _ = _
  rw [h0]
  rfl
theorem do_7 {t : ByteArray} {pc : Nat} (h0 : (Reader.u1 : Decoder Nat) t pc = .ok (7, pc + 1)) : decode t pc = .ok (.iconst 4, 1) := by
  refine dnx (n := pc + 1) ?_ (by omega)
  show Except.bind ((Reader.u1 : Decoder Nat) t pc) _ = _
  rw [h0]
  rfl
theorem do_76 {t : ByteArray} {pc : Nat} (h0 : (Reader.u1 : Decoder Nat) t pc = .ok (76, pc + 1)) : decode t pc = .ok (.astore_n 1, 1) := by
  refine dnx (n := pc + 1) ?_ (by omega)
  show Except.bind ((Reader.u1 : Decoder Nat) t pc) _ = _
  rw [h0]
  rfl
theorem do_77 {t : ByteArray} {pc : Nat} (h0 : (Reader.u1 : Decoder Nat) t pc = .ok (77, pc + 1)) : decode t pc = .ok (.astore_n 2, 1) := by
  refine dnx (n := pc + 1) ?_ (by omega)
  show Except.bind ((Reader.u1 : Decoder Nat) t pc) _ = _
  rw [h0]
  rfl
theorem do_78 {t : ByteArray} {pc : Nat} (h0 : (Reader.u1 : Decoder Nat) t pc = .ok (78, pc + 1)) : decode t pc = .ok (.astore_n 3, 1) := by
  refine dnx (n := pc + 1) ?_ (by omega)
  show Except.bind ((Reader.u1 : Decoder Nat) t pc) _ = _
  rw [h0]
  rfl
theorem do_79 {t : ByteArray} {pc : Nat} (h0 : (Reader.u1 : Decoder Nat) t pc = .ok (79, pc + 1)) : decode t pc = .ok (.iastore, 1) := by
  refine dnx (n := pc + 1) ?_ (by omega)
  show Except.bind ((Reader.u1 : Decoder Nat) t pc) _ = _
  rw [h0]
  rfl
theorem do_8 {t : ByteArray} {pc : Nat} (h0 : (Reader.u1 : Decoder Nat) t pc = .ok (8, pc + 1)) : decode t pc = .ok (.iconst 5, 1) := by
  refine dnx (n := pc + 1) ?_ (by omega)
  show Except.bind ((Reader.u1 : Decoder Nat) t pc) _ = _
  rw [h0]
  rfl
theorem do_80 {t : ByteArray} {pc : Nat} (h0 : (Reader.u1 : Decoder Nat) t pc = .ok (80, pc + 1)) : decode t pc = .ok (.lastore, 1) := by
  refine dnx (n := pc + 1) ?_ (by omega)
  show Except.bind ((Reader.u1 : Decoder Nat) t pc) _ = _
  rw [h0]
  rfl
theorem do_83 {t : ByteArray} {pc : Nat} (h0 : (Reader.u1 : Decoder Nat) t pc = .ok (83, pc + 1)) : decode t pc = .ok (.aastore, 1) := by
  refine dnx (n := pc + 1) ?_ (by omega)
  show Except.bind ((Reader.u1 : Decoder Nat) t pc) _ = _
  rw [h0]
  rfl
theorem do_84 {t : ByteArray} {pc : Nat} (h0 : (Reader.u1 : Decoder Nat) t pc = .ok (84, pc + 1)) : decode t pc = .ok (.bastore, 1) := by
  refine dnx (n := pc + 1) ?_ (by omega)
  show Except.bind ((Reader.u1 : Decoder Nat) t pc) _ = _
  rw [h0]
  rfl
theorem do_87 {t : ByteArray} {pc : Nat} (h0 : (Reader.u1 : Decoder Nat) t pc = .ok (87, pc + 1)) : decode t pc = .ok (.pop, 1) := by
  refine dnx (n := pc + 1) ?_ (by omega)
  show Except.bind ((Reader.u1 : Decoder Nat) t pc) _ = _
  rw [h0]
  rfl
theorem do_89 {t : ByteArray} {pc : Nat} (h0 : (Reader.u1 : Decoder Nat) t pc = .ok (89, pc + 1)) : decode t pc = .ok (.dup, 1) := by
  refine dnx (n := pc + 1) ?_ (by omega)
  show Except.bind ((Reader.u1 : Decoder Nat) t pc) _ = _
  rw [h0]
  rfl
theorem do_9 {t : ByteArray} {pc : Nat} (h0 : (Reader.u1 : Decoder Nat) t pc = .ok (9, pc + 1)) : decode t pc = .ok (.lconst 0, 1) := by
  refine dnx (n := pc + 1) ?_ (by omega)
  show Except.bind ((Reader.u1 : Decoder Nat) t pc) _ = _
  rw [h0]
  rfl
theorem do_92 {t : ByteArray} {pc : Nat} (h0 : (Reader.u1 : Decoder Nat) t pc = .ok (92, pc + 1)) : decode t pc = .ok (.dup2, 1) := by
  refine dnx (n := pc + 1) ?_ (by omega)
  show Except.bind ((Reader.u1 : Decoder Nat) t pc) _ = _
  rw [h0]
  rfl
theorem do_96 {t : ByteArray} {pc : Nat} (h0 : (Reader.u1 : Decoder Nat) t pc = .ok (96, pc + 1)) : decode t pc = .ok (.iadd, 1) := by
  refine dnx (n := pc + 1) ?_ (by omega)
  show Except.bind ((Reader.u1 : Decoder Nat) t pc) _ = _
  rw [h0]
  rfl
theorem do_97 {t : ByteArray} {pc : Nat} (h0 : (Reader.u1 : Decoder Nat) t pc = .ok (97, pc + 1)) : decode t pc = .ok (.ladd, 1) := by
  refine dnx (n := pc + 1) ?_ (by omega)
  show Except.bind ((Reader.u1 : Decoder Nat) t pc) _ = _
  rw [h0]
  rfl
