set_option maxHeartbeats 4000000 in
set_option maxRecDepth 100000 in
theorem law_case_0 {p : Program} {e : Env} {s : State} {m : MethodId} {below : List Frame} {meth : Method} {c : Code} {Q : State → Prop} (l : Launch) {b : Nat} {xs : Nat → Int32} {A : Nat → Prop} {G : va_G} {cy : Nat → ClassId} {sk : Nat → Nat} {H : Heap} {locs : List Loc} {ls : Array Slot} (x : Nat) (lv : Nat) (kp : Nat) (tr_ : Nat) (sh : Nat) (er : Nat) (re : Nat) (fi : Nat) (vo : Nat) (st : Nat) (oc : Nat) (ki : Nat) (ce : Nat) (si : Nat) (sp : Nat) (la : Nat) (le : Nat) (ta : Nat) (wa : Nat) (wk : Nat) (foc : Nat → Int32) (mo : Nat) (nw : Nat) (nk : Nat) (na : Nat) (fd : Nat) (ea : Nat) (so : Nat) (nd : Nat) (cd : Nat) (nmd : Nat) (pl : Nat) (tl : Nat) (fr_ : Nat) (rw_ : Nat) (brw : Nat) (po : Nat) (trc : Nat) (wi : Nat) (sz_ : Nat) (nu : Nat) (ca : Nat) (X0 : ∀ j, j < 192 → foc j = (-1)) : p.tables.exec = Jvm.exec → c.code = code → c.maxLocals = 4 → s.vm.findClass RL = some m.cls → (∀ w ∈ BASE, w.before #[Value.ref b] s = true) → EN G cy sk s → va_X b 6 xs s s.heap → b < s.heap.size → ¬ A b → (∀ q, s.heap.size ≤ q → A q) → va_P G classes [(x, .inr (11, [.ref lv, .ref kp, .ref tr_, .ref sh, .ref er, .ref re, .ref fi, .ref vo, .int 0])), (er, .inl (cy 0, 7, .inl (fun _ => 0))), (lv, .inr (10, [.ref st, .ref la, .ref le, .ref ta, .ref wa, .ref wk, .int 0, .int 0])), (st, .inr (7, [.ref oc, .ref ki, .ref ce, .ref si, .ref sp, .int 0])), (oc, .inl (cy 0, 192, .inl foc)), (ki, .inl (cy 0, 40, .inl (fun _ => 0))), (ce, .inl (cy 0, 40, .inl (fun _ => 0))), (si, .inl (cy 0, 40, .inl (fun _ => 0))), (sp, .inl (cy 0, 40, .inl (fun _ => 0))), (mo, .inr (12, [.ref nw, .ref nk, .ref na, .int 0, .ref fd, .ref ea, .ref so, .int (-1), .ref nd, .int 0, .int 0, .int 0, .int 0, .int 0, .int 0, .ref cd, .ref nmd, .ref pl, .ref tl, .ref fr_, .ref rw_, .ref brw, .int 0, .int 0, .ref po, .ref trc, .int 0, .int 0, .int 0, .ref wi, .ref sz_, .ref nu, .ref ca])), (nw, .inl (cy 0, 3567, .inl nw0)), (fd, .inl (cy 0, 7, .inl (fun _ => 0)))] H → va_D A [(x, .inr (11, [.ref lv, .ref kp, .ref tr_, .ref sh, .ref er, .ref re, .ref fi, .ref vo, .int 0])), (er, .inl (cy 0, 7, .inl (fun _ => 0))), (lv, .inr (10, [.ref st, .ref la, .ref le, .ref ta, .ref wa, .ref wk, .int 0, .int 0])), (st, .inr (7, [.ref oc, .ref ki, .ref ce, .ref si, .ref sp, .int 0])), (oc, .inl (cy 0, 192, .inl foc)), (ki, .inl (cy 0, 40, .inl (fun _ => 0))), (ce, .inl (cy 0, 40, .inl (fun _ => 0))), (si, .inl (cy 0, 40, .inl (fun _ => 0))), (sp, .inl (cy 0, 40, .inl (fun _ => 0))), (mo, .inr (12, [.ref nw, .ref nk, .ref na, .int 0, .ref fd, .ref ea, .ref so, .int (-1), .ref nd, .int 0, .int 0, .int 0, .int 0, .int 0, .int 0, .ref cd, .ref nmd, .ref pl, .ref tl, .ref fr_, .ref rw_, .ref brw, .int 0, .int 0, .ref po, .ref trc, .int 0, .int 0, .int 0, .ref wi, .ref sz_, .ref nu, .ref ca])), (nw, .inl (cy 0, 3567, .inl nw0)), (fd, .inl (cy 0, 7, .inl (fun _ => 0)))] → va_S A s.heap H locs → lv_has ls 4 [(0, .ref b), (1, .ref x), (2, .ref mo), (3, .int 0)] → (∀ (H : Heap) (locs : List Loc) (ls : Array Slot), va_S A s.heap H locs → lv_has ls 4 [(0, .ref b), (3, .int 0)] → W p l e room_1 s m #[Value.ref b] below meth c H locs 222 26621 Q (F0 m 1731 ls [])) → W p l e room_1 s m #[Value.ref b] below meth c H locs 222 26621 Q (F0 m 212 ls []) := by
  intro hx hb hml hown hts hE hX hbl hbA hA hP hD hS hl hend
  have hP : va_P G classes [(x, .inr (11, [.ref lv, .ref kp, .ref tr_, .ref sh, .ref er, .ref re, .ref fi, .ref vo, .int 0])), (er, .inl (cy 0, 7, .inl (fun _ => 0))), (lv, .inr (10, [.ref st, .ref la, .ref le, .ref ta, .ref wa, .ref wk, .int 0, .int 0])), (st, .inr (7, [.ref oc, .ref ki, .ref ce, .ref si, .ref sp, .int 0])), (oc, .inl (cy 0, 192, .inl foc)), (ki, .inl (cy 0, 40, .inl (fun _ => 0))), (ce, .inl (cy 0, 40, .inl (fun _ => 0))), (si, .inl (cy 0, 40, .inl (fun _ => 0))), (sp, .inl (cy 0, 40, .inl (fun _ => 0))), (mo, .inr (12, [.ref nw, .ref nk, .ref na, .int 0, .ref fd, .ref ea, .ref so, .int (-1), .ref nd, .int 0, .int 0, .int 0, .int 0, .int 0, .int 0, .ref cd, .ref nmd, .ref pl, .ref tl, .ref fr_, .ref rw_, .ref brw, .int 0, .int 0, .ref po, .ref trc, .int 0, .int 0, .int 0, .ref wi, .ref sz_, .ref nu, .ref ca])), (nw, .inl (cy 0, 3567, .inl nw0)), (fd, .inl (cy 0, 7, .inl (fun _ => 0)))] H := hP
  refine lv_aload_n hx hb dL_law_212 rfl (lv_at hl 1 rfl) ?_
  refine lv_aload_n hx hb dL_law_213 rfl (lv_at hl 0 rfl) ?_
  refine lv_iload_n hx hb dL_law_214 rfl (lv_at hl 3 rfl) ?_
  refine lv_iconst (v := 1) hx hb dL_law_215 (by decide) ?_
  refine lv_iadd hx hb dL_law_216 ?_
  refine tp (v := 1) (by decide) ?_
  refine va_sld hx hb hX hbl hbA hS (vinL (by decide)) dL_law_217 ?_
  refine tp (v := (xs 1)) rfl ?_
  refine lv_aload_n hx hb dL_law_218 rfl (lv_at hl 0 rfl) ?_
  refine lv_iload_n hx hb dL_law_219 rfl (lv_at hl 3 rfl) ?_
  refine lv_iconst (v := 2) hx hb dL_law_220 (by decide) ?_
  refine lv_iadd hx hb dL_law_221 ?_
  refine tp (v := 2) (by decide) ?_
  refine va_sld hx hb hX hbl hbA hS (vinL (by decide)) dL_law_222 ?_
  refine tp (v := (xs 2)) rfl ?_
  refine wV (B := (fun _ => True)) (wr := [(mo, .inr (12, [.ref nw, .ref nk, .ref na, .int 0, .ref fd, .ref ea, .ref so, .int (-1), .ref nd, .int 0, .int 0, .int 0, .int 0, .int 0, .int 0, .ref cd, .ref nmd, .ref pl, .ref tl, .ref fr_, .ref rw_, .ref brw, .int 0, .int 0, .ref po, .ref trc, .int 0, .int 0, .int 0, .ref wi, .ref sz_, .ref nu, .ref ca])), (nw, .inl (cy 0, 3567, .inl nw0)), (fd, .inl (cy 0, 7, .inl (fun _ => 0)))]) (rest := []) hx hb hml hown hts hE (c_X11_thing l G cy sk H.size x lv kp tr_ sh er re fi vo (fun _ => 0) lv st la le ta wa wk oc ki ce si sp foc (xs 1) (xs 2) X0) kV_X11_thing m_487 rfl rfl ⟨(Nat.le_of_ble_eq_true rfl), (Nat.le_of_ble_eq_true rfl)⟩ hP hD hS hA 0 rfl rfl rfl [0, 1, 2, 3, 4, 5, 6, 7, 8] [9, 10, 11] rfl rfl rfl rfl (by decide) rfl rfl hl.1 (Nat.le_of_ble_eq_true rfl) dL_law_223 ⟨(Nat.le_of_ble_eq_true rfl), (Nat.le_of_ble_eq_true rfl)⟩ (fun r_1 H locs hr_ haf hS => ?_)
  obtain ⟨-, -, hP, hD⟩ := haf
  have hP : va_P G classes [(mo, .inr (12, [.ref nw, .ref nk, .ref na, .int 0, .ref fd, .ref ea, .ref so, .int (-1), .ref nd, .int 0, .int 0, .int 0, .int 0, .int 0, .int 0, .ref cd, .ref nmd, .ref pl, .ref tl, .ref fr_, .ref rw_, .ref brw, .int 0, .int 0, .ref po, .ref trc, .int 0, .int 0, .int 0, .ref wi, .ref sz_, .ref nu, .ref ca])), (nw, .inl (cy 0, 3567, .inl nw0)), (fd, .inl (cy 0, 7, .inl (fun _ => 0)))] H := hP
  have hD : va_D A [(mo, .inr (12, [.ref nw, .ref nk, .ref na, .int 0, .ref fd, .ref ea, .ref so, .int (-1), .ref nd, .int 0, .int 0, .int 0, .int 0, .int 0, .int 0, .ref cd, .ref nmd, .ref pl, .ref tl, .ref fr_, .ref rw_, .ref brw, .int 0, .int 0, .ref po, .ref trc, .int 0, .int 0, .int 0, .ref wi, .ref sz_, .ref nu, .ref ca])), (nw, .inl (cy 0, 3567, .inl nw0)), (fd, .inl (cy 0, 7, .inl (fun _ => 0)))] := hD
  subst hr_
  refine lv_aload_n hx hb dL_law_226 rfl (lv_at hl 2 rfl) ?_
  refine lv_aload_n hx hb dL_law_227 rfl (lv_at hl 0 rfl) ?_
  refine lv_iload_n hx hb dL_law_228 rfl (lv_at hl 3 rfl) ?_
  refine lv_iconst (v := 1) hx hb dL_law_229 (by decide) ?_
  refine lv_iadd hx hb dL_law_230 ?_
  refine tp (v := 1) (by decide) ?_
  refine va_sld hx hb hX hbl hbA hS (vinL (by decide)) dL_law_231 ?_
  refine tp (v := (xs 1)) rfl ?_
  refine lv_aload_n hx hb dL_law_232 rfl (lv_at hl 0 rfl) ?_
  refine lv_iload_n hx hb dL_law_233 rfl (lv_at hl 3 rfl) ?_
  refine lv_iconst (v := 2) hx hb dL_law_234 (by decide) ?_
  refine lv_iadd hx hb dL_law_235 ?_
  refine tp (v := 2) (by decide) ?_
  refine va_sld hx hb hX hbl hbA hS (vinL (by decide)) dL_law_236 ?_
  refine tp (v := (xs 2)) rfl ?_
  refine wV (B := (fun _ => True)) (wr := []) (rest := [.int (F_thing (xs 1) (xs 2))]) hx hb hml hown hts hE (c_X12_thing_ l G cy sk H.size mo nw nk na fd ea so nd cd nmd pl tl fr_ rw_ brw po trc wi sz_ nu ca (fun _ => 0) (xs 1) (xs 2)) kV_X12_thing_ m_1423 rfl rfl ⟨(Nat.le_of_ble_eq_true rfl), (Nat.le_of_ble_eq_true rfl)⟩ hP hD hS hA 0 rfl rfl rfl [0, 1, 2] [] rfl rfl rfl rfl (by decide) rfl rfl hl.1 (Nat.le_of_ble_eq_true rfl) dL_law_237 ⟨(Nat.le_of_ble_eq_true rfl), (Nat.le_of_ble_eq_true rfl)⟩ (fun r_2 H locs hr_ haf hS => ?_)
  obtain ⟨-, -, hP, hD⟩ := haf
  have hP : va_P G classes [] H := hP
  have hD : va_D A [] := hD
  subst hr_
  refine lv_icmp_eq (tgt := 1731) hx hb dL_law_240 (by decide) (fun _ => ?_) (fun h9 => absurd rfl h9)
  exact hend H locs ls hS (lv_sub hl [0, 3] rfl)
set_option maxHeartbeats 4000000 in
set_option maxRecDepth 100000 in
theorem law_case_1 {p : Program} {e : Env} {s : State} {m : MethodId} {below : List Frame} {meth : Method} {c : Code} {Q : State → Prop} (l : Launch) {b : Nat} {xs : Nat → Int32} {A : Nat → Prop} {G : va_G} {cy : Nat → ClassId} {sk : Nat → Nat} {H : Heap} {locs : List Loc} {ls : Array Slot} (x : Nat) (lv : Nat) (kp : Nat) (tr_ : Nat) (sh : Nat) (er : Nat) (re : Nat) (fi : Nat) (vo : Nat) (st : Nat) (oc : Nat) (ki : Nat) (ce : Nat) (si : Nat) (sp : Nat) (la : Nat) (le : Nat) (ta : Nat) (wa : Nat) (wk : Nat) (mo : Nat) (nw : Nat) (nk : Nat) (na : Nat) (fd : Nat) (ea : Nat) (so : Nat) (nd : Nat) (cd : Nat) (nmd : Nat) (pl : Nat) (tl : Nat) (fr_ : Nat) (rw_ : Nat) (brw : Nat) (po : Nat) (trc : Nat) (wi : Nat) (sz_ : Nat) (nu : Nat) (ca : Nat)  : p.tables.exec = Jvm.exec → c.code = code → c.maxLocals = 4 → s.vm.findClass RL = some m.cls → (∀ w ∈ BASE, w.before #[Value.ref b] s = true) → EN G cy sk s → va_X b 6 xs s s.heap → b < s.heap.size → ¬ A b → (∀ q, s.heap.size ≤ q → A q) → va_P G classes [(x, .inr (11, [.ref lv, .ref kp, .ref tr_, .ref sh, .ref er, .ref re, .ref fi, .ref vo, .int 0])), (er, .inl (cy 0, 7, .inl (fun _ => 0))), (lv, .inr (10, [.ref st, .ref la, .ref le, .ref ta, .ref wa, .ref wk, .int 0, .int 0])), (st, .inr (7, [.ref oc, .ref ki, .ref ce, .ref si, .ref sp, .int 0])), (mo, .inr (12, [.ref nw, .ref nk, .ref na, .int 0, .ref fd, .ref ea, .ref so, .int (-1), .ref nd, .int 0, .int 0, .int 0, .int 0, .int 0, .int 0, .ref cd, .ref nmd, .ref pl, .ref tl, .ref fr_, .ref rw_, .ref brw, .int 0, .int 0, .ref po, .ref trc, .int 0, .int 0, .int 0, .ref wi, .ref sz_, .ref nu, .ref ca])), (nw, .inl (cy 0, 3567, .inl nw0)), (fd, .inl (cy 0, 7, .inl (fun _ => 0)))] H → va_D A [(x, .inr (11, [.ref lv, .ref kp, .ref tr_, .ref sh, .ref er, .ref re, .ref fi, .ref vo, .int 0])), (er, .inl (cy 0, 7, .inl (fun _ => 0))), (lv, .inr (10, [.ref st, .ref la, .ref le, .ref ta, .ref wa, .ref wk, .int 0, .int 0])), (st, .inr (7, [.ref oc, .ref ki, .ref ce, .ref si, .ref sp, .int 0])), (mo, .inr (12, [.ref nw, .ref nk, .ref na, .int 0, .ref fd, .ref ea, .ref so, .int (-1), .ref nd, .int 0, .int 0, .int 0, .int 0, .int 0, .int 0, .ref cd, .ref nmd, .ref pl, .ref tl, .ref fr_, .ref rw_, .ref brw, .int 0, .int 0, .ref po, .ref trc, .int 0, .int 0, .int 0, .ref wi, .ref sz_, .ref nu, .ref ca])), (nw, .inl (cy 0, 3567, .inl nw0)), (fd, .inl (cy 0, 7, .inl (fun _ => 0)))] → va_S A s.heap H locs → lv_has ls 4 [(0, .ref b), (1, .ref x), (2, .ref mo), (3, .int 0)] → (∀ (H : Heap) (locs : List Loc) (ls : Array Slot), va_S A s.heap H locs → lv_has ls 4 [(0, .ref b), (3, .int 0)] → W p l e room_1 s m #[Value.ref b] below meth c H locs 222 26621 Q (F0 m 1731 ls [])) → W p l e room_1 s m #[Value.ref b] below meth c H locs 222 26621 Q (F0 m 245 ls []) := by
  intro hx hb hml hown hts hE hX hbl hbA hA hP hD hS hl hend
  have hP : va_P G classes [(x, .inr (11, [.ref lv, .ref kp, .ref tr_, .ref sh, .ref er, .ref re, .ref fi, .ref vo, .int 0])), (er, .inl (cy 0, 7, .inl (fun _ => 0))), (lv, .inr (10, [.ref st, .ref la, .ref le, .ref ta, .ref wa, .ref wk, .int 0, .int 0])), (st, .inr (7, [.ref oc, .ref ki, .ref ce, .ref si, .ref sp, .int 0])), (mo, .inr (12, [.ref nw, .ref nk, .ref na, .int 0, .ref fd, .ref ea, .ref so, .int (-1), .ref nd, .int 0, .int 0, .int 0, .int 0, .int 0, .int 0, .ref cd, .ref nmd, .ref pl, .ref tl, .ref fr_, .ref rw_, .ref brw, .int 0, .int 0, .ref po, .ref trc, .int 0, .int 0, .int 0, .ref wi, .ref sz_, .ref nu, .ref ca])), (nw, .inl (cy 0, 3567, .inl nw0)), (fd, .inl (cy 0, 7, .inl (fun _ => 0)))] H := hP
  refine lv_aload_n hx hb dL_law_245 rfl (lv_at hl 1 rfl) ?_
  refine lv_aload_n hx hb dL_law_246 rfl (lv_at hl 0 rfl) ?_
  refine lv_iload_n hx hb dL_law_247 rfl (lv_at hl 3 rfl) ?_
  refine lv_iconst (v := 1) hx hb dL_law_248 (by decide) ?_
  refine lv_iadd hx hb dL_law_249 ?_
  refine tp (v := 1) (by decide) ?_
  refine va_sld hx hb hX hbl hbA hS (vinL (by decide)) dL_law_250 ?_
  refine tp (v := (xs 1)) rfl ?_
  refine lv_aload_n hx hb dL_law_251 rfl (lv_at hl 0 rfl) ?_
  refine lv_iload_n hx hb dL_law_252 rfl (lv_at hl 3 rfl) ?_
  refine lv_iconst (v := 2) hx hb dL_law_253 (by decide) ?_
  refine lv_iadd hx hb dL_law_254 ?_
  refine tp (v := 2) (by decide) ?_
  refine va_sld hx hb hX hbl hbA hS (vinL (by decide)) dL_law_255 ?_
  refine tp (v := (xs 2)) rfl ?_
  refine wV (B := (fun _ => True)) (wr := [(mo, .inr (12, [.ref nw, .ref nk, .ref na, .int 0, .ref fd, .ref ea, .ref so, .int (-1), .ref nd, .int 0, .int 0, .int 0, .int 0, .int 0, .int 0, .ref cd, .ref nmd, .ref pl, .ref tl, .ref fr_, .ref rw_, .ref brw, .int 0, .int 0, .ref po, .ref trc, .int 0, .int 0, .int 0, .ref wi, .ref sz_, .ref nu, .ref ca])), (nw, .inl (cy 0, 3567, .inl nw0)), (fd, .inl (cy 0, 7, .inl (fun _ => 0)))]) (rest := []) hx hb hml hown hts hE (c_X11_thingIs l G cy sk H.size x lv kp tr_ sh er re fi vo (fun _ => 0) st la le ta wa wk oc ki ce si sp (xs 1) (xs 2)) kV_X11_thingIs m_522 rfl rfl ⟨(Nat.le_of_ble_eq_true rfl), (Nat.le_of_ble_eq_true rfl)⟩ hP hD hS hA 0 rfl rfl rfl [0, 1, 2, 3] [4, 5, 6] rfl rfl rfl rfl (by decide) rfl rfl hl.1 (Nat.le_of_ble_eq_true rfl) dL_law_256 ⟨(Nat.le_of_ble_eq_true rfl), (Nat.le_of_ble_eq_true rfl)⟩ (fun r_1 H locs hr_ haf hS => ?_)
  obtain ⟨-, -, hP, hD⟩ := haf
  have hP : va_P G classes [(mo, .inr (12, [.ref nw, .ref nk, .ref na, .int 0, .ref fd, .ref ea, .ref so, .int (-1), .ref nd, .int 0, .int 0, .int 0, .int 0, .int 0, .int 0, .ref cd, .ref nmd, .ref pl, .ref tl, .ref fr_, .ref rw_, .ref brw, .int 0, .int 0, .ref po, .ref trc, .int 0, .int 0, .int 0, .ref wi, .ref sz_, .ref nu, .ref ca])), (nw, .inl (cy 0, 3567, .inl nw0)), (fd, .inl (cy 0, 7, .inl (fun _ => 0)))] H := hP
  have hD : va_D A [(mo, .inr (12, [.ref nw, .ref nk, .ref na, .int 0, .ref fd, .ref ea, .ref so, .int (-1), .ref nd, .int 0, .int 0, .int 0, .int 0, .int 0, .int 0, .ref cd, .ref nmd, .ref pl, .ref tl, .ref fr_, .ref rw_, .ref brw, .int 0, .int 0, .ref po, .ref trc, .int 0, .int 0, .int 0, .ref wi, .ref sz_, .ref nu, .ref ca])), (nw, .inl (cy 0, 3567, .inl nw0)), (fd, .inl (cy 0, 7, .inl (fun _ => 0)))] := hD
  subst hr_
  refine lv_aload_n hx hb dL_law_259 rfl (lv_at hl 2 rfl) ?_
  refine lv_aload_n hx hb dL_law_260 rfl (lv_at hl 0 rfl) ?_
  refine lv_iload_n hx hb dL_law_261 rfl (lv_at hl 3 rfl) ?_
  refine lv_iconst (v := 1) hx hb dL_law_262 (by decide) ?_
  refine lv_iadd hx hb dL_law_263 ?_
  refine tp (v := 1) (by decide) ?_
  refine va_sld hx hb hX hbl hbA hS (vinL (by decide)) dL_law_264 ?_
  refine tp (v := (xs 1)) rfl ?_
  refine lv_aload_n hx hb dL_law_265 rfl (lv_at hl 0 rfl) ?_
  refine lv_iload_n hx hb dL_law_266 rfl (lv_at hl 3 rfl) ?_
  refine lv_iconst (v := 2) hx hb dL_law_267 (by decide) ?_
  refine lv_iadd hx hb dL_law_268 ?_
  refine tp (v := 2) (by decide) ?_
  refine va_sld hx hb hX hbl hbA hS (vinL (by decide)) dL_law_269 ?_
  refine tp (v := (xs 2)) rfl ?_
  refine wV (B := (fun _ => True)) (wr := []) (rest := [.int (-1000001)]) hx hb hml hown hts hE (c_X12_thingIs l G cy sk H.size mo nw nk na fd ea so nd cd nmd pl tl fr_ rw_ brw po trc wi sz_ nu ca (fun _ => 0) (xs 1) (xs 2)) kV_X12_thingIs m_1461 rfl rfl ⟨(Nat.le_of_ble_eq_true rfl), (Nat.le_of_ble_eq_true rfl)⟩ hP hD hS hA 0 rfl rfl rfl [0, 1, 2] [] rfl rfl rfl rfl (by decide) rfl rfl hl.1 (Nat.le_of_ble_eq_true rfl) dL_law_270 ⟨(Nat.le_of_ble_eq_true rfl), (Nat.le_of_ble_eq_true rfl)⟩ (fun r_2 H locs hr_ haf hS => ?_)
  obtain ⟨-, -, hP, hD⟩ := haf
  have hP : va_P G classes [] H := hP
  have hD : va_D A [] := hD
  subst hr_
  refine lv_icmp_eq (tgt := 1731) hx hb dL_law_273 (by decide) (fun _ => ?_) (fun h9 => absurd h9 (by decide))
  exact hend H locs ls hS (lv_sub hl [0, 3] rfl)
set_option maxHeartbeats 4000000 in
set_option maxRecDepth 100000 in
theorem law_case_2 {p : Program} {e : Env} {s : State} {m : MethodId} {below : List Frame} {meth : Method} {c : Code} {Q : State → Prop} (l : Launch) {b : Nat} {xs : Nat → Int32} {A : Nat → Prop} {G : va_G} {cy : Nat → ClassId} {sk : Nat → Nat} {H : Heap} {locs : List Loc} {ls : Array Slot} (x : Nat) (lv : Nat) (kp : Nat) (tr_ : Nat) (sh : Nat) (er : Nat) (re : Nat) (fi : Nat) (vo : Nat) (st : Nat) (oc : Nat) (ki : Nat) (ce : Nat) (si : Nat) (sp : Nat) (la : Nat) (le : Nat) (ta : Nat) (wa : Nat) (wk : Nat) (mo : Nat) (nw : Nat) (nk : Nat) (na : Nat) (fd : Nat) (ea : Nat) (so : Nat) (nd : Nat) (cd : Nat) (nmd : Nat) (pl : Nat) (tl : Nat) (fr_ : Nat) (rw_ : Nat) (brw : Nat) (po : Nat) (trc : Nat) (wi : Nat) (sz_ : Nat) (nu : Nat) (ca : Nat)  : p.tables.exec = Jvm.exec → c.code = code → c.maxLocals = 4 → s.vm.findClass RL = some m.cls → (∀ w ∈ BASE, w.before #[Value.ref b] s = true) → EN G cy sk s → va_X b 6 xs s s.heap → b < s.heap.size → ¬ A b → (∀ q, s.heap.size ≤ q → A q) → va_P G classes [(x, .inr (11, [.ref lv, .ref kp, .ref tr_, .ref sh, .ref er, .ref re, .ref fi, .ref vo, .int 0])), (er, .inl (cy 0, 7, .inl (fun _ => 0))), (lv, .inr (10, [.ref st, .ref la, .ref le, .ref ta, .ref wa, .ref wk, .int 0, .int 0])), (st, .inr (7, [.ref oc, .ref ki, .ref ce, .ref si, .ref sp, .int 0])), (mo, .inr (12, [.ref nw, .ref nk, .ref na, .int 0, .ref fd, .ref ea, .ref so, .int (-1), .ref nd, .int 0, .int 0, .int 0, .int 0, .int 0, .int 0, .ref cd, .ref nmd, .ref pl, .ref tl, .ref fr_, .ref rw_, .ref brw, .int 0, .int 0, .ref po, .ref trc, .int 0, .int 0, .int 0, .ref wi, .ref sz_, .ref nu, .ref ca])), (nw, .inl (cy 0, 3567, .inl nw0)), (fd, .inl (cy 0, 7, .inl (fun _ => 0)))] H → va_D A [(x, .inr (11, [.ref lv, .ref kp, .ref tr_, .ref sh, .ref er, .ref re, .ref fi, .ref vo, .int 0])), (er, .inl (cy 0, 7, .inl (fun _ => 0))), (lv, .inr (10, [.ref st, .ref la, .ref le, .ref ta, .ref wa, .ref wk, .int 0, .int 0])), (st, .inr (7, [.ref oc, .ref ki, .ref ce, .ref si, .ref sp, .int 0])), (mo, .inr (12, [.ref nw, .ref nk, .ref na, .int 0, .ref fd, .ref ea, .ref so, .int (-1), .ref nd, .int 0, .int 0, .int 0, .int 0, .int 0, .int 0, .ref cd, .ref nmd, .ref pl, .ref tl, .ref fr_, .ref rw_, .ref brw, .int 0, .int 0, .ref po, .ref trc, .int 0, .int 0, .int 0, .ref wi, .ref sz_, .ref nu, .ref ca])), (nw, .inl (cy 0, 3567, .inl nw0)), (fd, .inl (cy 0, 7, .inl (fun _ => 0)))] → va_S A s.heap H locs → lv_has ls 4 [(0, .ref b), (1, .ref x), (2, .ref mo), (3, .int 0)] → (∀ (H : Heap) (locs : List Loc) (ls : Array Slot), va_S A s.heap H locs → lv_has ls 4 [(0, .ref b), (3, .int 0)] → W p l e room_1 s m #[Value.ref b] below meth c H locs 222 26621 Q (F0 m 1731 ls [])) → W p l e room_1 s m #[Value.ref b] below meth c H locs 222 26621 Q (F0 m 278 ls []) := by
  intro hx hb hml hown hts hE hX hbl hbA hA hP hD hS hl hend
  have hP : va_P G classes [(x, .inr (11, [.ref lv, .ref kp, .ref tr_, .ref sh, .ref er, .ref re, .ref fi, .ref vo, .int 0])), (er, .inl (cy 0, 7, .inl (fun _ => 0))), (lv, .inr (10, [.ref st, .ref la, .ref le, .ref ta, .ref wa, .ref wk, .int 0, .int 0])), (st, .inr (7, [.ref oc, .ref ki, .ref ce, .ref si, .ref sp, .int 0])), (mo, .inr (12, [.ref nw, .ref nk, .ref na, .int 0, .ref fd, .ref ea, .ref so, .int (-1), .ref nd, .int 0, .int 0, .int 0, .int 0, .int 0, .int 0, .ref cd, .ref nmd, .ref pl, .ref tl, .ref fr_, .ref rw_, .ref brw, .int 0, .int 0, .ref po, .ref trc, .int 0, .int 0, .int 0, .ref wi, .ref sz_, .ref nu, .ref ca])), (nw, .inl (cy 0, 3567, .inl nw0)), (fd, .inl (cy 0, 7, .inl (fun _ => 0)))] H := hP
  refine lv_aload_n hx hb dL_law_278 rfl (lv_at hl 1 rfl) ?_
  refine lv_aload_n hx hb dL_law_279 rfl (lv_at hl 0 rfl) ?_
  refine lv_iload_n hx hb dL_law_280 rfl (lv_at hl 3 rfl) ?_
  refine lv_iconst (v := 1) hx hb dL_law_281 (by decide) ?_
  refine lv_iadd hx hb dL_law_282 ?_
  refine tp (v := 1) (by decide) ?_
  refine va_sld hx hb hX hbl hbA hS (vinL (by decide)) dL_law_283 ?_
  refine tp (v := (xs 1)) rfl ?_
  refine lv_aload_n hx hb dL_law_284 rfl (lv_at hl 0 rfl) ?_
  refine lv_iload_n hx hb dL_law_285 rfl (lv_at hl 3 rfl) ?_
  refine lv_iconst (v := 2) hx hb dL_law_286 (by decide) ?_
  refine lv_iadd hx hb dL_law_287 ?_
  refine tp (v := 2) (by decide) ?_
  refine va_sld hx hb hX hbl hbA hS (vinL (by decide)) dL_law_288 ?_
  refine tp (v := (xs 2)) rfl ?_
  refine lv_aload_n hx hb dL_law_289 rfl (lv_at hl 0 rfl) ?_
  refine lv_iload_n hx hb dL_law_290 rfl (lv_at hl 3 rfl) ?_
  refine lv_iconst (v := 3) hx hb dL_law_291 (by decide) ?_
  refine lv_iadd hx hb dL_law_292 ?_
  refine tp (v := 3) (by decide) ?_
  refine va_sld hx hb hX hbl hbA hS (vinL (by decide)) dL_law_293 ?_
  refine tp (v := (xs 3)) rfl ?_
  refine wV (B := (fun _ => True)) (wr := [(mo, .inr (12, [.ref nw, .ref nk, .ref na, .int 0, .ref fd, .ref ea, .ref so, .int (-1), .ref nd, .int 0, .int 0, .int 0, .int 0, .int 0, .int 0, .ref cd, .ref nmd, .ref pl, .ref tl, .ref fr_, .ref rw_, .ref brw, .int 0, .int 0, .ref po, .ref trc, .int 0, .int 0, .int 0, .ref wi, .ref sz_, .ref nu, .ref ca])), (nw, .inl (cy 0, 3567, .inl nw0)), (fd, .inl (cy 0, 7, .inl (fun _ => 0)))]) (rest := []) hx hb hml hown hts hE (c_X11_moves l G cy sk H.size x lv kp tr_ sh er re fi vo (fun _ => 0) st la le ta wa wk oc ki ce si sp (xs 1) (xs 2) (xs 3)) kV_X11_moves m_535 rfl rfl ⟨(Nat.le_of_ble_eq_true rfl), (Nat.le_of_ble_eq_true rfl)⟩ hP hD hS hA 0 rfl rfl rfl [0, 1, 2, 3] [4, 5, 6] rfl rfl rfl rfl (by decide) rfl rfl hl.1 (Nat.le_of_ble_eq_true rfl) dL_law_294 ⟨(Nat.le_of_ble_eq_true rfl), (Nat.le_of_ble_eq_true rfl)⟩ (fun r_1 H locs hr_ haf hS => ?_)
  obtain ⟨-, -, hP, hD⟩ := haf
  have hP : va_P G classes [(mo, .inr (12, [.ref nw, .ref nk, .ref na, .int 0, .ref fd, .ref ea, .ref so, .int (-1), .ref nd, .int 0, .int 0, .int 0, .int 0, .int 0, .int 0, .ref cd, .ref nmd, .ref pl, .ref tl, .ref fr_, .ref rw_, .ref brw, .int 0, .int 0, .ref po, .ref trc, .int 0, .int 0, .int 0, .ref wi, .ref sz_, .ref nu, .ref ca])), (nw, .inl (cy 0, 3567, .inl nw0)), (fd, .inl (cy 0, 7, .inl (fun _ => 0)))] H := hP
  have hD : va_D A [(mo, .inr (12, [.ref nw, .ref nk, .ref na, .int 0, .ref fd, .ref ea, .ref so, .int (-1), .ref nd, .int 0, .int 0, .int 0, .int 0, .int 0, .int 0, .ref cd, .ref nmd, .ref pl, .ref tl, .ref fr_, .ref rw_, .ref brw, .int 0, .int 0, .ref po, .ref trc, .int 0, .int 0, .int 0, .ref wi, .ref sz_, .ref nu, .ref ca])), (nw, .inl (cy 0, 3567, .inl nw0)), (fd, .inl (cy 0, 7, .inl (fun _ => 0)))] := hD
  subst hr_
  refine lv_aload_n hx hb dL_law_297 rfl (lv_at hl 2 rfl) ?_
  refine lv_aload_n hx hb dL_law_298 rfl (lv_at hl 0 rfl) ?_
  refine lv_iload_n hx hb dL_law_299 rfl (lv_at hl 3 rfl) ?_
  refine lv_iconst (v := 1) hx hb dL_law_300 (by decide) ?_
  refine lv_iadd hx hb dL_law_301 ?_
  refine tp (v := 1) (by decide) ?_
  refine va_sld hx hb hX hbl hbA hS (vinL (by decide)) dL_law_302 ?_
  refine tp (v := (xs 1)) rfl ?_
  refine lv_aload_n hx hb dL_law_303 rfl (lv_at hl 0 rfl) ?_
  refine lv_iload_n hx hb dL_law_304 rfl (lv_at hl 3 rfl) ?_
  refine lv_iconst (v := 2) hx hb dL_law_305 (by decide) ?_
  refine lv_iadd hx hb dL_law_306 ?_
  refine tp (v := 2) (by decide) ?_
  refine va_sld hx hb hX hbl hbA hS (vinL (by decide)) dL_law_307 ?_
  refine tp (v := (xs 2)) rfl ?_
  refine lv_aload_n hx hb dL_law_308 rfl (lv_at hl 0 rfl) ?_
  refine lv_iload_n hx hb dL_law_309 rfl (lv_at hl 3 rfl) ?_
  refine lv_iconst (v := 3) hx hb dL_law_310 (by decide) ?_
  refine lv_iadd hx hb dL_law_311 ?_
  refine tp (v := 3) (by decide) ?_
  refine va_sld hx hb hX hbl hbA hS (vinL (by decide)) dL_law_312 ?_
  refine tp (v := (xs 3)) rfl ?_
  refine wV (B := (fun _ => True)) (wr := []) (rest := [.int (-1000001)]) hx hb hml hown hts hE (c_X12_moves l G cy sk H.size mo nw nk na fd ea so nd cd nmd pl tl fr_ rw_ brw po trc wi sz_ nu ca (fun _ => 0) (xs 1) (xs 2) (xs 3)) kV_X12_moves m_1469 rfl rfl ⟨(Nat.le_of_ble_eq_true rfl), (Nat.le_of_ble_eq_true rfl)⟩ hP hD hS hA 0 rfl rfl rfl [0, 1, 2] [] rfl rfl rfl rfl (by decide) rfl rfl hl.1 (Nat.le_of_ble_eq_true rfl) dL_law_313 ⟨(Nat.le_of_ble_eq_true rfl), (Nat.le_of_ble_eq_true rfl)⟩ (fun r_2 H locs hr_ haf hS => ?_)
  obtain ⟨-, -, hP, hD⟩ := haf
  have hP : va_P G classes [] H := hP
  have hD : va_D A [] := hD
  subst hr_
  refine lv_icmp_eq (tgt := 1731) hx hb dL_law_316 (by decide) (fun _ => ?_) (fun h9 => absurd h9 (by decide))
  exact hend H locs ls hS (lv_sub hl [0, 3] rfl)
set_option maxHeartbeats 4000000 in
set_option maxRecDepth 100000 in
theorem law_case_3 {p : Program} {e : Env} {s : State} {m : MethodId} {below : List Frame} {meth : Method} {c : Code} {Q : State → Prop} (l : Launch) {b : Nat} {xs : Nat → Int32} {A : Nat → Prop} {G : va_G} {cy : Nat → ClassId} {sk : Nat → Nat} {H : Heap} {locs : List Loc} {ls : Array Slot} (x : Nat) (lv : Nat) (kp : Nat) (tr_ : Nat) (sh : Nat) (er : Nat) (re : Nat) (fi : Nat) (vo : Nat) (st : Nat) (oc : Nat) (ki : Nat) (ce : Nat) (si : Nat) (sp : Nat) (la : Nat) (le : Nat) (ta : Nat) (wa : Nat) (wk : Nat) (mo : Nat) (nw : Nat) (nk : Nat) (na : Nat) (fd : Nat) (ea : Nat) (so : Nat) (nd : Nat) (cd : Nat) (nmd : Nat) (pl : Nat) (tl : Nat) (fr_ : Nat) (rw_ : Nat) (brw : Nat) (po : Nat) (trc : Nat) (wi : Nat) (sz_ : Nat) (nu : Nat) (ca : Nat)  : p.tables.exec = Jvm.exec → c.code = code → c.maxLocals = 4 → s.vm.findClass RL = some m.cls → (∀ w ∈ BASE, w.before #[Value.ref b] s = true) → EN G cy sk s → va_X b 6 xs s s.heap → b < s.heap.size → ¬ A b → (∀ q, s.heap.size ≤ q → A q) → va_P G classes [(x, .inr (11, [.ref lv, .ref kp, .ref tr_, .ref sh, .ref er, .ref re, .ref fi, .ref vo, .int 0])), (er, .inl (cy 0, 7, .inl (fun _ => 0))), (lv, .inr (10, [.ref st, .ref la, .ref le, .ref ta, .ref wa, .ref wk, .int 0, .int 0])), (st, .inr (7, [.ref oc, .ref ki, .ref ce, .ref si, .ref sp, .int 0])), (mo, .inr (12, [.ref nw, .ref nk, .ref na, .int 0, .ref fd, .ref ea, .ref so, .int (-1), .ref nd, .int 0, .int 0, .int 0, .int 0, .int 0, .int 0, .ref cd, .ref nmd, .ref pl, .ref tl, .ref fr_, .ref rw_, .ref brw, .int 0, .int 0, .ref po, .ref trc, .int 0, .int 0, .int 0, .ref wi, .ref sz_, .ref nu, .ref ca])), (nw, .inl (cy 0, 3567, .inl nw0)), (fd, .inl (cy 0, 7, .inl (fun _ => 0)))] H → va_D A [(x, .inr (11, [.ref lv, .ref kp, .ref tr_, .ref sh, .ref er, .ref re, .ref fi, .ref vo, .int 0])), (er, .inl (cy 0, 7, .inl (fun _ => 0))), (lv, .inr (10, [.ref st, .ref la, .ref le, .ref ta, .ref wa, .ref wk, .int 0, .int 0])), (st, .inr (7, [.ref oc, .ref ki, .ref ce, .ref si, .ref sp, .int 0])), (mo, .inr (12, [.ref nw, .ref nk, .ref na, .int 0, .ref fd, .ref ea, .ref so, .int (-1), .ref nd, .int 0, .int 0, .int 0, .int 0, .int 0, .int 0, .ref cd, .ref nmd, .ref pl, .ref tl, .ref fr_, .ref rw_, .ref brw, .int 0, .int 0, .ref po, .ref trc, .int 0, .int 0, .int 0, .ref wi, .ref sz_, .ref nu, .ref ca])), (nw, .inl (cy 0, 3567, .inl nw0)), (fd, .inl (cy 0, 7, .inl (fun _ => 0)))] → va_S A s.heap H locs → lv_has ls 4 [(0, .ref b), (1, .ref x), (2, .ref mo), (3, .int 0)] → (∀ (H : Heap) (locs : List Loc) (ls : Array Slot), va_S A s.heap H locs → lv_has ls 4 [(0, .ref b), (3, .int 0)] → W p l e room_1 s m #[Value.ref b] below meth c H locs 222 26621 Q (F0 m 1731 ls [])) → W p l e room_1 s m #[Value.ref b] below meth c H locs 222 26621 Q (F0 m 321 ls []) := by
  intro hx hb hml hown hts hE hX hbl hbA hA hP hD hS hl hend
  have hP : va_P G classes [(x, .inr (11, [.ref lv, .ref kp, .ref tr_, .ref sh, .ref er, .ref re, .ref fi, .ref vo, .int 0])), (er, .inl (cy 0, 7, .inl (fun _ => 0))), (lv, .inr (10, [.ref st, .ref la, .ref le, .ref ta, .ref wa, .ref wk, .int 0, .int 0])), (st, .inr (7, [.ref oc, .ref ki, .ref ce, .ref si, .ref sp, .int 0])), (mo, .inr (12, [.ref nw, .ref nk, .ref na, .int 0, .ref fd, .ref ea, .ref so, .int (-1), .ref nd, .int 0, .int 0, .int 0, .int 0, .int 0, .int 0, .ref cd, .ref nmd, .ref pl, .ref tl, .ref fr_, .ref rw_, .ref brw, .int 0, .int 0, .ref po, .ref trc, .int 0, .int 0, .int 0, .ref wi, .ref sz_, .ref nu, .ref ca])), (nw, .inl (cy 0, 3567, .inl nw0)), (fd, .inl (cy 0, 7, .inl (fun _ => 0)))] H := hP
  refine lv_aload_n hx hb dL_law_321 rfl (lv_at hl 1 rfl) ?_
  refine lv_aload_n hx hb dL_law_322 rfl (lv_at hl 0 rfl) ?_
  refine lv_iload_n hx hb dL_law_323 rfl (lv_at hl 3 rfl) ?_
  refine lv_iconst (v := 1) hx hb dL_law_324 (by decide) ?_
  refine lv_iadd hx hb dL_law_325 ?_
  refine tp (v := 1) (by decide) ?_
  refine va_sld hx hb hX hbl hbA hS (vinL (by decide)) dL_law_326 ?_
  refine tp (v := (xs 1)) rfl ?_
  refine wV (B := (fun _ => True)) (wr := [(mo, .inr (12, [.ref nw, .ref nk, .ref na, .int 0, .ref fd, .ref ea, .ref so, .int (-1), .ref nd, .int 0, .int 0, .int 0, .int 0, .int 0, .int 0, .ref cd, .ref nmd, .ref pl, .ref tl, .ref fr_, .ref rw_, .ref brw, .int 0, .int 0, .ref po, .ref trc, .int 0, .int 0, .int 0, .ref wi, .ref sz_, .ref nu, .ref ca])), (nw, .inl (cy 0, 3567, .inl nw0)), (fd, .inl (cy 0, 7, .inl (fun _ => 0)))]) (rest := []) hx hb hml hown hts hE (c_X11_away l G cy sk H.size x lv kp tr_ sh er re fi vo (fun _ => 0) st la le ta wa wk oc ki ce si sp (xs 1)) kV_X11_away m_542 rfl rfl ⟨(Nat.le_of_ble_eq_true rfl), (Nat.le_of_ble_eq_true rfl)⟩ hP hD hS hA 0 rfl rfl rfl [0, 1, 2, 3] [4, 5, 6] rfl rfl rfl rfl (by decide) rfl rfl hl.1 (Nat.le_of_ble_eq_true rfl) dL_law_327 ⟨(Nat.le_of_ble_eq_true rfl), (Nat.le_of_ble_eq_true rfl)⟩ (fun r_1 H locs hr_ haf hS => ?_)
  obtain ⟨-, -, hP, hD⟩ := haf
  have hP : va_P G classes [(mo, .inr (12, [.ref nw, .ref nk, .ref na, .int 0, .ref fd, .ref ea, .ref so, .int (-1), .ref nd, .int 0, .int 0, .int 0, .int 0, .int 0, .int 0, .ref cd, .ref nmd, .ref pl, .ref tl, .ref fr_, .ref rw_, .ref brw, .int 0, .int 0, .ref po, .ref trc, .int 0, .int 0, .int 0, .ref wi, .ref sz_, .ref nu, .ref ca])), (nw, .inl (cy 0, 3567, .inl nw0)), (fd, .inl (cy 0, 7, .inl (fun _ => 0)))] H := hP
  have hD : va_D A [(mo, .inr (12, [.ref nw, .ref nk, .ref na, .int 0, .ref fd, .ref ea, .ref so, .int (-1), .ref nd, .int 0, .int 0, .int 0, .int 0, .int 0, .int 0, .ref cd, .ref nmd, .ref pl, .ref tl, .ref fr_, .ref rw_, .ref brw, .int 0, .int 0, .ref po, .ref trc, .int 0, .int 0, .int 0, .ref wi, .ref sz_, .ref nu, .ref ca])), (nw, .inl (cy 0, 3567, .inl nw0)), (fd, .inl (cy 0, 7, .inl (fun _ => 0)))] := hD
  subst hr_
  refine lv_aload_n hx hb dL_law_330 rfl (lv_at hl 2 rfl) ?_
  refine lv_aload_n hx hb dL_law_331 rfl (lv_at hl 0 rfl) ?_
  refine lv_iload_n hx hb dL_law_332 rfl (lv_at hl 3 rfl) ?_
  refine lv_iconst (v := 1) hx hb dL_law_333 (by decide) ?_
  refine lv_iadd hx hb dL_law_334 ?_
  refine tp (v := 1) (by decide) ?_
  refine va_sld hx hb hX hbl hbA hS (vinL (by decide)) dL_law_335 ?_
  refine tp (v := (xs 1)) rfl ?_
  refine wV (B := (fun _ => True)) (wr := []) (rest := [.int (-1000001)]) hx hb hml hown hts hE (c_X12_away l G cy sk H.size mo nw nk na fd ea so nd cd nmd pl tl fr_ rw_ brw po trc wi sz_ nu ca (fun _ => 0) (xs 1)) kV_X12_away m_1477 rfl rfl ⟨(Nat.le_of_ble_eq_true rfl), (Nat.le_of_ble_eq_true rfl)⟩ hP hD hS hA 0 rfl rfl rfl [0, 1, 2] [] rfl rfl rfl rfl (by decide) rfl rfl hl.1 (Nat.le_of_ble_eq_true rfl) dL_law_336 ⟨(Nat.le_of_ble_eq_true rfl), (Nat.le_of_ble_eq_true rfl)⟩ (fun r_2 H locs hr_ haf hS => ?_)
  obtain ⟨-, -, hP, hD⟩ := haf
  have hP : va_P G classes [] H := hP
  have hD : va_D A [] := hD
  subst hr_
  refine lv_icmp_eq (tgt := 1731) hx hb dL_law_339 (by decide) (fun _ => ?_) (fun h9 => absurd h9 (by decide))
  exact hend H locs ls hS (lv_sub hl [0, 3] rfl)
set_option maxHeartbeats 4000000 in
set_option maxRecDepth 100000 in
theorem law_case_4 {p : Program} {e : Env} {s : State} {m : MethodId} {below : List Frame} {meth : Method} {c : Code} {Q : State → Prop} (l : Launch) {b : Nat} {xs : Nat → Int32} {A : Nat → Prop} {G : va_G} {cy : Nat → ClassId} {sk : Nat → Nat} {H : Heap} {locs : List Loc} {ls : Array Slot} (x : Nat) (lv : Nat) (kp : Nat) (tr_ : Nat) (sh : Nat) (er : Nat) (re : Nat) (fi : Nat) (vo : Nat) (st : Nat) (la : Nat) (ld : Nat) (sr : Nat) (tx : Nat) (vl : Nat) (le : Nat) (ta : Nat) (wa : Nat) (wk : Nat) (fl : Nat → Int32) (mo : Nat) (nw : Nat) (nk : Nat) (na : Nat) (fd : Nat) (ea : Nat) (so : Nat) (nd : Nat) (cd : Nat) (nmd : Nat) (pl : Nat) (tl : Nat) (fr_ : Nat) (rw_ : Nat) (brw : Nat) (po : Nat) (trc : Nat) (wi : Nat) (sz_ : Nat) (nu : Nat) (ca : Nat) (X1 : ∀ j, j < 5 → fl j = 50) : p.tables.exec = Jvm.exec → c.code = code → c.maxLocals = 4 → s.vm.findClass RL = some m.cls → (∀ w ∈ BASE, w.before #[Value.ref b] s = true) → EN G cy sk s → va_X b 6 xs s s.heap → b < s.heap.size → ¬ A b → (∀ q, s.heap.size ≤ q → A q) → va_P G classes [(x, .inr (11, [.ref lv, .ref kp, .ref tr_, .ref sh, .ref er, .ref re, .ref fi, .ref vo, .int 0])), (er, .inl (cy 0, 7, .inl (fun _ => 0))), (lv, .inr (10, [.ref st, .ref la, .ref le, .ref ta, .ref wa, .ref wk, .int 0, .int 0])), (la, .inr (2, [.int 5, .int 9, .int 0, .ref ld, .ref sr, .ref tx, .ref vl])), (ld, .inl (cy 0, 5, .inl fl)), (sr, .inl (cy 0, 5, .inl (fun _ => 0))), (mo, .inr (12, [.ref nw, .ref nk, .ref na, .int 0, .ref fd, .ref ea, .ref so, .int (-1), .ref nd, .int 0, .int 0, .int 0, .int 0, .int 0, .int 0, .ref cd, .ref nmd, .ref pl, .ref tl, .ref fr_, .ref rw_, .ref brw, .int 0, .int 0, .ref po, .ref trc, .int 0, .int 0, .int 0, .ref wi, .ref sz_, .ref nu, .ref ca])), (nw, .inl (cy 0, 3567, .inl nw0)), (fd, .inl (cy 0, 7, .inl (fun _ => 0)))] H → va_D A [(x, .inr (11, [.ref lv, .ref kp, .ref tr_, .ref sh, .ref er, .ref re, .ref fi, .ref vo, .int 0])), (er, .inl (cy 0, 7, .inl (fun _ => 0))), (lv, .inr (10, [.ref st, .ref la, .ref le, .ref ta, .ref wa, .ref wk, .int 0, .int 0])), (la, .inr (2, [.int 5, .int 9, .int 0, .ref ld, .ref sr, .ref tx, .ref vl])), (ld, .inl (cy 0, 5, .inl fl)), (sr, .inl (cy 0, 5, .inl (fun _ => 0))), (mo, .inr (12, [.ref nw, .ref nk, .ref na, .int 0, .ref fd, .ref ea, .ref so, .int (-1), .ref nd, .int 0, .int 0, .int 0, .int 0, .int 0, .int 0, .ref cd, .ref nmd, .ref pl, .ref tl, .ref fr_, .ref rw_, .ref brw, .int 0, .int 0, .ref po, .ref trc, .int 0, .int 0, .int 0, .ref wi, .ref sz_, .ref nu, .ref ca])), (nw, .inl (cy 0, 3567, .inl nw0)), (fd, .inl (cy 0, 7, .inl (fun _ => 0)))] → va_S A s.heap H locs → lv_has ls 4 [(0, .ref b), (1, .ref x), (2, .ref mo), (3, .int 0)] → (∀ (H : Heap) (locs : List Loc) (ls : Array Slot), va_S A s.heap H locs → lv_has ls 4 [(0, .ref b), (3, .int 0)] → W p l e room_1 s m #[Value.ref b] below meth c H locs 222 26621 Q (F0 m 1731 ls [])) → W p l e room_1 s m #[Value.ref b] below meth c H locs 222 26621 Q (F0 m 344 ls []) := by
  intro hx hb hml hown hts hE hX hbl hbA hA hP hD hS hl hend
  have hP : va_P G classes [(x, .inr (11, [.ref lv, .ref kp, .ref tr_, .ref sh, .ref er, .ref re, .ref fi, .ref vo, .int 0])), (er, .inl (cy 0, 7, .inl (fun _ => 0))), (lv, .inr (10, [.ref st, .ref la, .ref le, .ref ta, .ref wa, .ref wk, .int 0, .int 0])), (la, .inr (2, [.int 5, .int 9, .int 0, .ref ld, .ref sr, .ref tx, .ref vl])), (ld, .inl (cy 0, 5, .inl fl)), (sr, .inl (cy 0, 5, .inl (fun _ => 0))), (mo, .inr (12, [.ref nw, .ref nk, .ref na, .int 0, .ref fd, .ref ea, .ref so, .int (-1), .ref nd, .int 0, .int 0, .int 0, .int 0, .int 0, .int 0, .ref cd, .ref nmd, .ref pl, .ref tl, .ref fr_, .ref rw_, .ref brw, .int 0, .int 0, .ref po, .ref trc, .int 0, .int 0, .int 0, .ref wi, .ref sz_, .ref nu, .ref ca])), (nw, .inl (cy 0, 3567, .inl nw0)), (fd, .inl (cy 0, 7, .inl (fun _ => 0)))] H := hP
  refine lv_aload_n hx hb dL_law_344 rfl (lv_at hl 1 rfl) ?_
  refine lv_aload_n hx hb dL_law_345 rfl (lv_at hl 0 rfl) ?_
  refine lv_iload_n hx hb dL_law_346 rfl (lv_at hl 3 rfl) ?_
  refine lv_iconst (v := 1) hx hb dL_law_347 (by decide) ?_
  refine lv_iadd hx hb dL_law_348 ?_
  refine tp (v := 1) (by decide) ?_
  refine va_sld hx hb hX hbl hbA hS (vinL (by decide)) dL_law_349 ?_
  refine tp (v := (xs 1)) rfl ?_
  refine lv_aload_n hx hb dL_law_350 rfl (lv_at hl 0 rfl) ?_
  refine lv_iload_n hx hb dL_law_351 rfl (lv_at hl 3 rfl) ?_
  refine lv_iconst (v := 2) hx hb dL_law_352 (by decide) ?_
  refine lv_iadd hx hb dL_law_353 ?_
  refine tp (v := 2) (by decide) ?_
  refine va_sld hx hb hX hbl hbA hS (vinL (by decide)) dL_law_354 ?_
  refine tp (v := (xs 2)) rfl ?_
  refine lv_aload_n hx hb dL_law_355 rfl (lv_at hl 0 rfl) ?_
  refine lv_iload_n hx hb dL_law_356 rfl (lv_at hl 3 rfl) ?_
  refine lv_iconst (v := 3) hx hb dL_law_357 (by decide) ?_
  refine lv_iadd hx hb dL_law_358 ?_
  refine tp (v := 3) (by decide) ?_
  refine va_sld hx hb hX hbl hbA hS (vinL (by decide)) dL_law_359 ?_
  refine tp (v := (xs 3)) rfl ?_
  refine wV (B := (fun _ => True)) (wr := [(mo, .inr (12, [.ref nw, .ref nk, .ref na, .int 0, .ref fd, .ref ea, .ref so, .int (-1), .ref nd, .int 0, .int 0, .int 0, .int 0, .int 0, .int 0, .ref cd, .ref nmd, .ref pl, .ref tl, .ref fr_, .ref rw_, .ref brw, .int 0, .int 0, .ref po, .ref trc, .int 0, .int 0, .int 0, .ref wi, .ref sz_, .ref nu, .ref ca])), (nw, .inl (cy 0, 3567, .inl nw0)), (fd, .inl (cy 0, 7, .inl (fun _ => 0)))]) (rest := []) hx hb hml hown hts hE (c_X11_kind l G cy sk H.size x lv kp tr_ sh er re fi vo (fun _ => 0) lv st la le ta wa wk ld sr tx vl fl (xs 1) (xs 2) (xs 3) X1) kV_X11_kind m_550 rfl rfl ⟨(Nat.le_of_ble_eq_true rfl), (Nat.le_of_ble_eq_true rfl)⟩ hP hD hS hA 0 rfl rfl rfl [0, 1, 2, 3, 4, 5] [6, 7, 8] rfl rfl rfl rfl (by decide) rfl rfl hl.1 (Nat.le_of_ble_eq_true rfl) dL_law_360 ⟨(Nat.le_of_ble_eq_true rfl), (Nat.le_of_ble_eq_true rfl)⟩ (fun r_1 H locs hr_ haf hS => ?_)
  obtain ⟨-, -, hP, hD⟩ := haf
  have hP : va_P G classes [(mo, .inr (12, [.ref nw, .ref nk, .ref na, .int 0, .ref fd, .ref ea, .ref so, .int (-1), .ref nd, .int 0, .int 0, .int 0, .int 0, .int 0, .int 0, .ref cd, .ref nmd, .ref pl, .ref tl, .ref fr_, .ref rw_, .ref brw, .int 0, .int 0, .ref po, .ref trc, .int 0, .int 0, .int 0, .ref wi, .ref sz_, .ref nu, .ref ca])), (nw, .inl (cy 0, 3567, .inl nw0)), (fd, .inl (cy 0, 7, .inl (fun _ => 0)))] H := hP
  have hD : va_D A [(mo, .inr (12, [.ref nw, .ref nk, .ref na, .int 0, .ref fd, .ref ea, .ref so, .int (-1), .ref nd, .int 0, .int 0, .int 0, .int 0, .int 0, .int 0, .ref cd, .ref nmd, .ref pl, .ref tl, .ref fr_, .ref rw_, .ref brw, .int 0, .int 0, .ref po, .ref trc, .int 0, .int 0, .int 0, .ref wi, .ref sz_, .ref nu, .ref ca])), (nw, .inl (cy 0, 3567, .inl nw0)), (fd, .inl (cy 0, 7, .inl (fun _ => 0)))] := hD
  subst hr_
  refine lv_aload_n hx hb dL_law_363 rfl (lv_at hl 2 rfl) ?_
  refine lv_aload_n hx hb dL_law_364 rfl (lv_at hl 0 rfl) ?_
  refine lv_iload_n hx hb dL_law_365 rfl (lv_at hl 3 rfl) ?_
  refine lv_iconst (v := 1) hx hb dL_law_366 (by decide) ?_
  refine lv_iadd hx hb dL_law_367 ?_
  refine tp (v := 1) (by decide) ?_
  refine va_sld hx hb hX hbl hbA hS (vinL (by decide)) dL_law_368 ?_
  refine tp (v := (xs 1)) rfl ?_
  refine lv_aload_n hx hb dL_law_369 rfl (lv_at hl 0 rfl) ?_
  refine lv_iload_n hx hb dL_law_370 rfl (lv_at hl 3 rfl) ?_
  refine lv_iconst (v := 2) hx hb dL_law_371 (by decide) ?_
  refine lv_iadd hx hb dL_law_372 ?_
  refine tp (v := 2) (by decide) ?_
  refine va_sld hx hb hX hbl hbA hS (vinL (by decide)) dL_law_373 ?_
  refine tp (v := (xs 2)) rfl ?_
  refine lv_aload_n hx hb dL_law_374 rfl (lv_at hl 0 rfl) ?_
  refine lv_iload_n hx hb dL_law_375 rfl (lv_at hl 3 rfl) ?_
  refine lv_iconst (v := 3) hx hb dL_law_376 (by decide) ?_
  refine lv_iadd hx hb dL_law_377 ?_
  refine tp (v := 3) (by decide) ?_
  refine va_sld hx hb hX hbl hbA hS (vinL (by decide)) dL_law_378 ?_
  refine tp (v := (xs 3)) rfl ?_
  refine wV (B := (fun _ => True)) (wr := []) (rest := [.int (F_kind (xs 1) (xs 2) (xs 3))]) hx hb hml hown hts hE (c_X12_kind l G cy sk H.size mo nw nk na fd ea so nd cd nmd pl tl fr_ rw_ brw po trc wi sz_ nu ca (fun _ => 0) (xs 1) (xs 2) (xs 3)) kV_X12_kind m_1485 rfl rfl ⟨(Nat.le_of_ble_eq_true rfl), (Nat.le_of_ble_eq_true rfl)⟩ hP hD hS hA 0 rfl rfl rfl [0, 1, 2] [] rfl rfl rfl rfl (by decide) rfl rfl hl.1 (Nat.le_of_ble_eq_true rfl) dL_law_379 ⟨(Nat.le_of_ble_eq_true rfl), (Nat.le_of_ble_eq_true rfl)⟩ (fun r_2 H locs hr_ haf hS => ?_)
  obtain ⟨-, -, hP, hD⟩ := haf
  have hP : va_P G classes [] H := hP
  have hD : va_D A [] := hD
  subst hr_
  refine lv_icmp_eq (tgt := 1731) hx hb dL_law_382 (by decide) (fun _ => ?_) (fun h9 => absurd rfl h9)
  exact hend H locs ls hS (lv_sub hl [0, 3] rfl)
set_option maxHeartbeats 4000000 in
set_option maxRecDepth 100000 in
theorem law_case_5 {p : Program} {e : Env} {s : State} {m : MethodId} {below : List Frame} {meth : Method} {c : Code} {Q : State → Prop} (l : Launch) {b : Nat} {xs : Nat → Int32} {A : Nat → Prop} {G : va_G} {cy : Nat → ClassId} {sk : Nat → Nat} {H : Heap} {locs : List Loc} {ls : Array Slot} (x : Nat) (lv : Nat) (kp : Nat) (tr_ : Nat) (sh : Nat) (er : Nat) (re : Nat) (fi : Nat) (vo : Nat) (st : Nat) (oc : Nat) (ki : Nat) (ce : Nat) (si : Nat) (sp : Nat) (la : Nat) (le : Nat) (ta : Nat) (wa : Nat) (wk : Nat) (foc : Nat → Int32) (mo : Nat) (nw : Nat) (nk : Nat) (na : Nat) (fd : Nat) (ea : Nat) (so : Nat) (nd : Nat) (cd : Nat) (nmd : Nat) (pl : Nat) (tl : Nat) (fr_ : Nat) (rw_ : Nat) (brw : Nat) (po : Nat) (trc : Nat) (wi : Nat) (sz_ : Nat) (nu : Nat) (ca : Nat) (X0 : ∀ j, j < 192 → foc j = (-1)) : p.tables.exec = Jvm.exec → c.code = code → c.maxLocals = 4 → s.vm.findClass RL = some m.cls → (∀ w ∈ BASE, w.before #[Value.ref b] s = true) → EN G cy sk s → va_X b 6 xs s s.heap → b < s.heap.size → ¬ A b → (∀ q, s.heap.size ≤ q → A q) → va_P G classes [(x, .inr (11, [.ref lv, .ref kp, .ref tr_, .ref sh, .ref er, .ref re, .ref fi, .ref vo, .int 0])), (er, .inl (cy 0, 7, .inl (fun _ => 0))), (lv, .inr (10, [.ref st, .ref la, .ref le, .ref ta, .ref wa, .ref wk, .int 0, .int 0])), (st, .inr (7, [.ref oc, .ref ki, .ref ce, .ref si, .ref sp, .int 0])), (oc, .inl (cy 0, 192, .inl foc)), (mo, .inr (12, [.ref nw, .ref nk, .ref na, .int 0, .ref fd, .ref ea, .ref so, .int (-1), .ref nd, .int 0, .int 0, .int 0, .int 0, .int 0, .int 0, .ref cd, .ref nmd, .ref pl, .ref tl, .ref fr_, .ref rw_, .ref brw, .int 0, .int 0, .ref po, .ref trc, .int 0, .int 0, .int 0, .ref wi, .ref sz_, .ref nu, .ref ca])), (nw, .inl (cy 0, 3567, .inl nw0)), (fd, .inl (cy 0, 7, .inl (fun _ => 0)))] H → va_D A [(x, .inr (11, [.ref lv, .ref kp, .ref tr_, .ref sh, .ref er, .ref re, .ref fi, .ref vo, .int 0])), (er, .inl (cy 0, 7, .inl (fun _ => 0))), (lv, .inr (10, [.ref st, .ref la, .ref le, .ref ta, .ref wa, .ref wk, .int 0, .int 0])), (st, .inr (7, [.ref oc, .ref ki, .ref ce, .ref si, .ref sp, .int 0])), (oc, .inl (cy 0, 192, .inl foc)), (mo, .inr (12, [.ref nw, .ref nk, .ref na, .int 0, .ref fd, .ref ea, .ref so, .int (-1), .ref nd, .int 0, .int 0, .int 0, .int 0, .int 0, .int 0, .ref cd, .ref nmd, .ref pl, .ref tl, .ref fr_, .ref rw_, .ref brw, .int 0, .int 0, .ref po, .ref trc, .int 0, .int 0, .int 0, .ref wi, .ref sz_, .ref nu, .ref ca])), (nw, .inl (cy 0, 3567, .inl nw0)), (fd, .inl (cy 0, 7, .inl (fun _ => 0)))] → va_S A s.heap H locs → lv_has ls 4 [(0, .ref b), (1, .ref x), (2, .ref mo), (3, .int 0)] → (∀ (H : Heap) (locs : List Loc) (ls : Array Slot), va_S A s.heap H locs → lv_has ls 4 [(0, .ref b), (3, .int 0)] → W p l e room_1 s m #[Value.ref b] below meth c H locs 222 26621 Q (F0 m 1731 ls [])) → W p l e room_1 s m #[Value.ref b] below meth c H locs 222 26621 Q (F0 m 387 ls []) := by
  intro hx hb hml hown hts hE hX hbl hbA hA hP hD hS hl hend
  have hP : va_P G classes [(x, .inr (11, [.ref lv, .ref kp, .ref tr_, .ref sh, .ref er, .ref re, .ref fi, .ref vo, .int 0])), (er, .inl (cy 0, 7, .inl (fun _ => 0))), (lv, .inr (10, [.ref st, .ref la, .ref le, .ref ta, .ref wa, .ref wk, .int 0, .int 0])), (st, .inr (7, [.ref oc, .ref ki, .ref ce, .ref si, .ref sp, .int 0])), (oc, .inl (cy 0, 192, .inl foc)), (mo, .inr (12, [.ref nw, .ref nk, .ref na, .int 0, .ref fd, .ref ea, .ref so, .int (-1), .ref nd, .int 0, .int 0, .int 0, .int 0, .int 0, .int 0, .ref cd, .ref nmd, .ref pl, .ref tl, .ref fr_, .ref rw_, .ref brw, .int 0, .int 0, .ref po, .ref trc, .int 0, .int 0, .int 0, .ref wi, .ref sz_, .ref nu, .ref ca])), (nw, .inl (cy 0, 3567, .inl nw0)), (fd, .inl (cy 0, 7, .inl (fun _ => 0)))] H := hP
  refine lv_aload_n hx hb dL_law_387 rfl (lv_at hl 1 rfl) ?_
  refine lv_aload_n hx hb dL_law_388 rfl (lv_at hl 0 rfl) ?_
  refine lv_iload_n hx hb dL_law_389 rfl (lv_at hl 3 rfl) ?_
  refine lv_iconst (v := 1) hx hb dL_law_390 (by decide) ?_
  refine lv_iadd hx hb dL_law_391 ?_
  refine tp (v := 1) (by decide) ?_
  refine va_sld hx hb hX hbl hbA hS (vinL (by decide)) dL_law_392 ?_
  refine tp (v := (xs 1)) rfl ?_
  refine wV (B := (fun _ => True)) (wr := [(mo, .inr (12, [.ref nw, .ref nk, .ref na, .int 0, .ref fd, .ref ea, .ref so, .int (-1), .ref nd, .int 0, .int 0, .int 0, .int 0, .int 0, .int 0, .ref cd, .ref nmd, .ref pl, .ref tl, .ref fr_, .ref rw_, .ref brw, .int 0, .int 0, .ref po, .ref trc, .int 0, .int 0, .int 0, .ref wi, .ref sz_, .ref nu, .ref ca])), (nw, .inl (cy 0, 3567, .inl nw0)), (fd, .inl (cy 0, 7, .inl (fun _ => 0)))]) (rest := []) hx hb hml hown hts hE (c_X11_at l G cy sk H.size x lv kp tr_ sh er re fi vo (fun _ => 0) lv st la le ta wa wk oc ki ce si sp foc (xs 1) X0) kV_X11_at m_558 rfl rfl ⟨(Nat.le_of_ble_eq_true rfl), (Nat.le_of_ble_eq_true rfl)⟩ hP hD hS hA 0 rfl rfl rfl [0, 1, 2, 3, 4] [5, 6, 7] rfl rfl rfl rfl (by decide) rfl rfl hl.1 (Nat.le_of_ble_eq_true rfl) dL_law_393 ⟨(Nat.le_of_ble_eq_true rfl), (Nat.le_of_ble_eq_true rfl)⟩ (fun r_1 H locs hr_ haf hS => ?_)
  obtain ⟨-, -, hP, hD⟩ := haf
  have hP : va_P G classes [(mo, .inr (12, [.ref nw, .ref nk, .ref na, .int 0, .ref fd, .ref ea, .ref so, .int (-1), .ref nd, .int 0, .int 0, .int 0, .int 0, .int 0, .int 0, .ref cd, .ref nmd, .ref pl, .ref tl, .ref fr_, .ref rw_, .ref brw, .int 0, .int 0, .ref po, .ref trc, .int 0, .int 0, .int 0, .ref wi, .ref sz_, .ref nu, .ref ca])), (nw, .inl (cy 0, 3567, .inl nw0)), (fd, .inl (cy 0, 7, .inl (fun _ => 0)))] H := hP
  have hD : va_D A [(mo, .inr (12, [.ref nw, .ref nk, .ref na, .int 0, .ref fd, .ref ea, .ref so, .int (-1), .ref nd, .int 0, .int 0, .int 0, .int 0, .int 0, .int 0, .ref cd, .ref nmd, .ref pl, .ref tl, .ref fr_, .ref rw_, .ref brw, .int 0, .int 0, .ref po, .ref trc, .int 0, .int 0, .int 0, .ref wi, .ref sz_, .ref nu, .ref ca])), (nw, .inl (cy 0, 3567, .inl nw0)), (fd, .inl (cy 0, 7, .inl (fun _ => 0)))] := hD
  subst hr_
  refine lv_aload_n hx hb dL_law_396 rfl (lv_at hl 2 rfl) ?_
  refine lv_aload_n hx hb dL_law_397 rfl (lv_at hl 0 rfl) ?_
  refine lv_iload_n hx hb dL_law_398 rfl (lv_at hl 3 rfl) ?_
  refine lv_iconst (v := 1) hx hb dL_law_399 (by decide) ?_
  refine lv_iadd hx hb dL_law_400 ?_
  refine tp (v := 1) (by decide) ?_
  refine va_sld hx hb hX hbl hbA hS (vinL (by decide)) dL_law_401 ?_
  refine tp (v := (xs 1)) rfl ?_
  refine wV (B := (fun _ => True)) (wr := []) (rest := [.int (F_at (xs 1))]) hx hb hml hown hts hE (c_X12_at l G cy sk H.size mo nw nk na fd ea so nd cd nmd pl tl fr_ rw_ brw po trc wi sz_ nu ca (fun _ => 0) (xs 1)) kV_X12_at m_1489 rfl rfl ⟨(Nat.le_of_ble_eq_true rfl), (Nat.le_of_ble_eq_true rfl)⟩ hP hD hS hA 0 rfl rfl rfl [0, 1, 2] [] rfl rfl rfl rfl (by decide) rfl rfl hl.1 (Nat.le_of_ble_eq_true rfl) dL_law_402 ⟨(Nat.le_of_ble_eq_true rfl), (Nat.le_of_ble_eq_true rfl)⟩ (fun r_2 H locs hr_ haf hS => ?_)
  obtain ⟨-, -, hP, hD⟩ := haf
  have hP : va_P G classes [] H := hP
  have hD : va_D A [] := hD
  subst hr_
  refine lv_icmp_eq (tgt := 1731) hx hb dL_law_405 (by decide) (fun _ => ?_) (fun h9 => absurd rfl h9)
  exact hend H locs ls hS (lv_sub hl [0, 3] rfl)
set_option maxHeartbeats 4000000 in
set_option maxRecDepth 100000 in
theorem law_case_6 {p : Program} {e : Env} {s : State} {m : MethodId} {below : List Frame} {meth : Method} {c : Code} {Q : State → Prop} (l : Launch) {b : Nat} {xs : Nat → Int32} {A : Nat → Prop} {G : va_G} {cy : Nat → ClassId} {sk : Nat → Nat} {H : Heap} {locs : List Loc} {ls : Array Slot} (x : Nat) (lv : Nat) (kp : Nat) (tr_ : Nat) (sh : Nat) (er : Nat) (re : Nat) (fi : Nat) (vo : Nat) (s0 : Nat) (s1 : Nat) (s2 : Nat) (s3 : Nat) (u0 : Nat) (u1 : Nat) (u2 : Nat) (u3 : Nat) (gs : Nat → Option Nat) (mo : Nat) (nw : Nat) (nk : Nat) (na : Nat) (fd : Nat) (ea : Nat) (so : Nat) (nd : Nat) (cd : Nat) (nmd : Nat) (pl : Nat) (tl : Nat) (fr_ : Nat) (rw_ : Nat) (brw : Nat) (po : Nat) (trc : Nat) (wi : Nat) (sz_ : Nat) (nu : Nat) (ca : Nat) (X11 : gs 0 = some s0) (X12 : gs 1 = some s1) (X13 : gs 2 = some s2) (X14 : gs 3 = some s3) : p.tables.exec = Jvm.exec → c.code = code → c.maxLocals = 4 → s.vm.findClass RL = some m.cls → (∀ w ∈ BASE, w.before #[Value.ref b] s = true) → EN G cy sk s → va_X b 6 xs s s.heap → b < s.heap.size → ¬ A b → (∀ q, s.heap.size ≤ q → A q) → va_P G classes [(x, .inr (11, [.ref lv, .ref kp, .ref tr_, .ref sh, .ref er, .ref re, .ref fi, .ref vo, .int 0])), (er, .inl (cy 0, 7, .inl (fun _ => 0))), (sh, .inl (cy 5, 4, .inr (.inr (.inr (.inr gs))))), (s0, .inr (6, [.int 0, .int 0, .ref u0])), (s1, .inr (6, [.int 0, .int 0, .ref u1])), (s2, .inr (6, [.int 0, .int 0, .ref u2])), (s3, .inr (6, [.int 0, .int 0, .ref u3])), (mo, .inr (12, [.ref nw, .ref nk, .ref na, .int 0, .ref fd, .ref ea, .ref so, .int (-1), .ref nd, .int 0, .int 0, .int 0, .int 0, .int 0, .int 0, .ref cd, .ref nmd, .ref pl, .ref tl, .ref fr_, .ref rw_, .ref brw, .int 0, .int 0, .ref po, .ref trc, .int 0, .int 0, .int 0, .ref wi, .ref sz_, .ref nu, .ref ca])), (nw, .inl (cy 0, 3567, .inl nw0)), (fd, .inl (cy 0, 7, .inl (fun _ => 0))), (wi, .inl (cy 0, 4, .inl (fun _ => 0)))] H → va_D A [(x, .inr (11, [.ref lv, .ref kp, .ref tr_, .ref sh, .ref er, .ref re, .ref fi, .ref vo, .int 0])), (er, .inl (cy 0, 7, .inl (fun _ => 0))), (sh, .inl (cy 5, 4, .inr (.inr (.inr (.inr gs))))), (s0, .inr (6, [.int 0, .int 0, .ref u0])), (s1, .inr (6, [.int 0, .int 0, .ref u1])), (s2, .inr (6, [.int 0, .int 0, .ref u2])), (s3, .inr (6, [.int 0, .int 0, .ref u3])), (mo, .inr (12, [.ref nw, .ref nk, .ref na, .int 0, .ref fd, .ref ea, .ref so, .int (-1), .ref nd, .int 0, .int 0, .int 0, .int 0, .int 0, .int 0, .ref cd, .ref nmd, .ref pl, .ref tl, .ref fr_, .ref rw_, .ref brw, .int 0, .int 0, .ref po, .ref trc, .int 0, .int 0, .int 0, .ref wi, .ref sz_, .ref nu, .ref ca])), (nw, .inl (cy 0, 3567, .inl nw0)), (fd, .inl (cy 0, 7, .inl (fun _ => 0))), (wi, .inl (cy 0, 4, .inl (fun _ => 0)))] → va_S A s.heap H locs → lv_has ls 4 [(0, .ref b), (1, .ref x), (2, .ref mo), (3, .int 0)] → (∀ (H : Heap) (locs : List Loc) (ls : Array Slot), va_S A s.heap H locs → lv_has ls 4 [(0, .ref b), (3, .int 0)] → W p l e room_1 s m #[Value.ref b] below meth c H locs 222 26621 Q (F0 m 1731 ls [])) → W p l e room_1 s m #[Value.ref b] below meth c H locs 222 26621 Q (F0 m 410 ls []) := by
  intro hx hb hml hown hts hE hX hbl hbA hA hP hD hS hl hend
  have hP : va_P G classes [(x, .inr (11, [.ref lv, .ref kp, .ref tr_, .ref sh, .ref er, .ref re, .ref fi, .ref vo, .int 0])), (er, .inl (cy 0, 7, .inl (fun _ => 0))), (sh, .inl (cy 5, 4, .inr (.inr (.inr (.inr gs))))), (s0, .inr (6, [.int 0, .int 0, .ref u0])), (s1, .inr (6, [.int 0, .int 0, .ref u1])), (s2, .inr (6, [.int 0, .int 0, .ref u2])), (s3, .inr (6, [.int 0, .int 0, .ref u3])), (mo, .inr (12, [.ref nw, .ref nk, .ref na, .int 0, .ref fd, .ref ea, .ref so, .int (-1), .ref nd, .int 0, .int 0, .int 0, .int 0, .int 0, .int 0, .ref cd, .ref nmd, .ref pl, .ref tl, .ref fr_, .ref rw_, .ref brw, .int 0, .int 0, .ref po, .ref trc, .int 0, .int 0, .int 0, .ref wi, .ref sz_, .ref nu, .ref ca])), (nw, .inl (cy 0, 3567, .inl nw0)), (fd, .inl (cy 0, 7, .inl (fun _ => 0))), (wi, .inl (cy 0, 4, .inl (fun _ => 0)))] H := hP
  refine lv_aload_n hx hb dL_law_410 rfl (lv_at hl 1 rfl) ?_
  refine lv_aload_n hx hb dL_law_411 rfl (lv_at hl 0 rfl) ?_
  refine lv_iload_n hx hb dL_law_412 rfl (lv_at hl 3 rfl) ?_
  refine lv_iconst (v := 1) hx hb dL_law_413 (by decide) ?_
  refine lv_iadd hx hb dL_law_414 ?_
  refine tp (v := 1) (by decide) ?_
  refine va_sld hx hb hX hbl hbA hS (vinL (by decide)) dL_law_415 ?_
  refine tp (v := (xs 1)) rfl ?_
  refine lv_aload_n hx hb dL_law_416 rfl (lv_at hl 0 rfl) ?_
  refine lv_iload_n hx hb dL_law_417 rfl (lv_at hl 3 rfl) ?_
  refine lv_iconst (v := 2) hx hb dL_law_418 (by decide) ?_
  refine lv_iadd hx hb dL_law_419 ?_
  refine tp (v := 2) (by decide) ?_
  refine va_sld hx hb hX hbl hbA hS (vinL (by decide)) dL_law_420 ?_
  refine tp (v := (xs 2)) rfl ?_
  refine wV (B := (fun _ => True)) (wr := [(mo, .inr (12, [.ref nw, .ref nk, .ref na, .int 0, .ref fd, .ref ea, .ref so, .int (-1), .ref nd, .int 0, .int 0, .int 0, .int 0, .int 0, .int 0, .ref cd, .ref nmd, .ref pl, .ref tl, .ref fr_, .ref rw_, .ref brw, .int 0, .int 0, .ref po, .ref trc, .int 0, .int 0, .int 0, .ref wi, .ref sz_, .ref nu, .ref ca])), (nw, .inl (cy 0, 3567, .inl nw0)), (fd, .inl (cy 0, 7, .inl (fun _ => 0))), (wi, .inl (cy 0, 4, .inl (fun _ => 0)))]) (rest := []) hx hb hml hown hts hE (c_X11_lays l G cy sk H.size x lv kp tr_ sh er re fi vo (fun _ => 0) s0 s1 s2 s3 u0 u1 u2 u3 gs (xs 1) (xs 2) X11 X12 X13 X14) kV_X11_lays m_562 rfl rfl ⟨(Nat.le_of_ble_eq_true rfl), (Nat.le_of_ble_eq_true rfl)⟩ hP hD hS hA 0 rfl rfl rfl [0, 1, 2, 3, 4, 5, 6] [7, 8, 9, 10] rfl rfl rfl rfl (by decide) rfl rfl hl.1 (Nat.le_of_ble_eq_true rfl) dL_law_421 ⟨(Nat.le_of_ble_eq_true rfl), (Nat.le_of_ble_eq_true rfl)⟩ (fun r_1 H locs hr_ haf hS => ?_)
  obtain ⟨-, -, hP, hD⟩ := haf
  have hP : va_P G classes [(mo, .inr (12, [.ref nw, .ref nk, .ref na, .int 0, .ref fd, .ref ea, .ref so, .int (-1), .ref nd, .int 0, .int 0, .int 0, .int 0, .int 0, .int 0, .ref cd, .ref nmd, .ref pl, .ref tl, .ref fr_, .ref rw_, .ref brw, .int 0, .int 0, .ref po, .ref trc, .int 0, .int 0, .int 0, .ref wi, .ref sz_, .ref nu, .ref ca])), (nw, .inl (cy 0, 3567, .inl nw0)), (fd, .inl (cy 0, 7, .inl (fun _ => 0))), (wi, .inl (cy 0, 4, .inl (fun _ => 0)))] H := hP
  have hD : va_D A [(mo, .inr (12, [.ref nw, .ref nk, .ref na, .int 0, .ref fd, .ref ea, .ref so, .int (-1), .ref nd, .int 0, .int 0, .int 0, .int 0, .int 0, .int 0, .ref cd, .ref nmd, .ref pl, .ref tl, .ref fr_, .ref rw_, .ref brw, .int 0, .int 0, .ref po, .ref trc, .int 0, .int 0, .int 0, .ref wi, .ref sz_, .ref nu, .ref ca])), (nw, .inl (cy 0, 3567, .inl nw0)), (fd, .inl (cy 0, 7, .inl (fun _ => 0))), (wi, .inl (cy 0, 4, .inl (fun _ => 0)))] := hD
  subst hr_
  refine lv_aload_n hx hb dL_law_424 rfl (lv_at hl 2 rfl) ?_
  refine lv_aload_n hx hb dL_law_425 rfl (lv_at hl 0 rfl) ?_
  refine lv_iload_n hx hb dL_law_426 rfl (lv_at hl 3 rfl) ?_
  refine lv_iconst (v := 1) hx hb dL_law_427 (by decide) ?_
  refine lv_iadd hx hb dL_law_428 ?_
  refine tp (v := 1) (by decide) ?_
  refine va_sld hx hb hX hbl hbA hS (vinL (by decide)) dL_law_429 ?_
  refine tp (v := (xs 1)) rfl ?_
  refine lv_aload_n hx hb dL_law_430 rfl (lv_at hl 0 rfl) ?_
  refine lv_iload_n hx hb dL_law_431 rfl (lv_at hl 3 rfl) ?_
  refine lv_iconst (v := 2) hx hb dL_law_432 (by decide) ?_
  refine lv_iadd hx hb dL_law_433 ?_
  refine tp (v := 2) (by decide) ?_
  refine va_sld hx hb hX hbl hbA hS (vinL (by decide)) dL_law_434 ?_
  refine tp (v := (xs 2)) rfl ?_
  refine wV (B := (fun _ => True)) (wr := []) (rest := [.int (F_lays (xs 1) (xs 2))]) hx hb hml hown hts hE (c_X12_lays l G cy sk H.size mo nw nk na fd ea so nd cd nmd pl tl fr_ rw_ brw po trc wi sz_ nu ca (fun _ => 0) (xs 1) (xs 2)) kV_X12_lays m_1493 rfl rfl ⟨(Nat.le_of_ble_eq_true rfl), (Nat.le_of_ble_eq_true rfl)⟩ hP hD hS hA 0 rfl rfl rfl [0, 1, 2, 3] [] rfl rfl rfl rfl (by decide) rfl rfl hl.1 (Nat.le_of_ble_eq_true rfl) dL_law_435 ⟨(Nat.le_of_ble_eq_true rfl), (Nat.le_of_ble_eq_true rfl)⟩ (fun r_2 H locs hr_ haf hS => ?_)
  obtain ⟨-, -, hP, hD⟩ := haf
  have hP : va_P G classes [] H := hP
  have hD : va_D A [] := hD
  subst hr_
  refine lv_icmp_eq (tgt := 1731) hx hb dL_law_438 (by decide) (fun _ => ?_) (fun h9 => absurd rfl h9)
  exact hend H locs ls hS (lv_sub hl [0, 3] rfl)
set_option maxHeartbeats 4000000 in
set_option maxRecDepth 100000 in
theorem law_case_7 {p : Program} {e : Env} {s : State} {m : MethodId} {below : List Frame} {meth : Method} {c : Code} {Q : State → Prop} (l : Launch) {b : Nat} {xs : Nat → Int32} {A : Nat → Prop} {G : va_G} {cy : Nat → ClassId} {sk : Nat → Nat} {H : Heap} {locs : List Loc} {ls : Array Slot} (x : Nat) (lv : Nat) (kp : Nat) (tr_ : Nat) (sh : Nat) (er : Nat) (re : Nat) (fi : Nat) (vo : Nat) (st : Nat) (la : Nat) (ld : Nat) (sr : Nat) (tx : Nat) (vl : Nat) (le : Nat) (ta : Nat) (wa : Nat) (wk : Nat) (mo : Nat) (nw : Nat) (nk : Nat) (na : Nat) (fd : Nat) (ea : Nat) (so : Nat) (nd : Nat) (cd : Nat) (nmd : Nat) (pl : Nat) (tl : Nat) (fr_ : Nat) (rw_ : Nat) (brw : Nat) (po : Nat) (trc : Nat) (wi : Nat) (sz_ : Nat) (nu : Nat) (ca : Nat)  : p.tables.exec = Jvm.exec → c.code = code → c.maxLocals = 4 → s.vm.findClass RL = some m.cls → (∀ w ∈ BASE, w.before #[Value.ref b] s = true) → EN G cy sk s → va_X b 6 xs s s.heap → b < s.heap.size → ¬ A b → (∀ q, s.heap.size ≤ q → A q) → va_P G classes [(x, .inr (11, [.ref lv, .ref kp, .ref tr_, .ref sh, .ref er, .ref re, .ref fi, .ref vo, .int 0])), (er, .inl (cy 0, 7, .inl (fun _ => 0))), (lv, .inr (10, [.ref st, .ref la, .ref le, .ref ta, .ref wa, .ref wk, .int 0, .int 0])), (la, .inr (2, [.int 5, .int 9, .int 0, .ref ld, .ref sr, .ref tx, .ref vl])), (mo, .inr (12, [.ref nw, .ref nk, .ref na, .int 0, .ref fd, .ref ea, .ref so, .int (-1), .ref nd, .int 0, .int 0, .int 0, .int 0, .int 0, .int 0, .ref cd, .ref nmd, .ref pl, .ref tl, .ref fr_, .ref rw_, .ref brw, .int 0, .int 0, .ref po, .ref trc, .int 0, .int 0, .int 0, .ref wi, .ref sz_, .ref nu, .ref ca])), (nw, .inl (cy 0, 3567, .inl nw0)), (fd, .inl (cy 0, 7, .inl (fun _ => 0)))] H → va_D A [(x, .inr (11, [.ref lv, .ref kp, .ref tr_, .ref sh, .ref er, .ref re, .ref fi, .ref vo, .int 0])), (er, .inl (cy 0, 7, .inl (fun _ => 0))), (lv, .inr (10, [.ref st, .ref la, .ref le, .ref ta, .ref wa, .ref wk, .int 0, .int 0])), (la, .inr (2, [.int 5, .int 9, .int 0, .ref ld, .ref sr, .ref tx, .ref vl])), (mo, .inr (12, [.ref nw, .ref nk, .ref na, .int 0, .ref fd, .ref ea, .ref so, .int (-1), .ref nd, .int 0, .int 0, .int 0, .int 0, .int 0, .int 0, .ref cd, .ref nmd, .ref pl, .ref tl, .ref fr_, .ref rw_, .ref brw, .int 0, .int 0, .ref po, .ref trc, .int 0, .int 0, .int 0, .ref wi, .ref sz_, .ref nu, .ref ca])), (nw, .inl (cy 0, 3567, .inl nw0)), (fd, .inl (cy 0, 7, .inl (fun _ => 0)))] → va_S A s.heap H locs → lv_has ls 4 [(0, .ref b), (1, .ref x), (2, .ref mo), (3, .int 0)] → (∀ (H : Heap) (locs : List Loc) (ls : Array Slot), va_S A s.heap H locs → lv_has ls 4 [(0, .ref b), (3, .int 0)] → W p l e room_1 s m #[Value.ref b] below meth c H locs 222 26621 Q (F0 m 1731 ls [])) → W p l e room_1 s m #[Value.ref b] below meth c H locs 222 26621 Q (F0 m 443 ls []) := by
  intro hx hb hml hown hts hE hX hbl hbA hA hP hD hS hl hend
  have hP : va_P G classes [(x, .inr (11, [.ref lv, .ref kp, .ref tr_, .ref sh, .ref er, .ref re, .ref fi, .ref vo, .int 0])), (er, .inl (cy 0, 7, .inl (fun _ => 0))), (lv, .inr (10, [.ref st, .ref la, .ref le, .ref ta, .ref wa, .ref wk, .int 0, .int 0])), (la, .inr (2, [.int 5, .int 9, .int 0, .ref ld, .ref sr, .ref tx, .ref vl])), (mo, .inr (12, [.ref nw, .ref nk, .ref na, .int 0, .ref fd, .ref ea, .ref so, .int (-1), .ref nd, .int 0, .int 0, .int 0, .int 0, .int 0, .int 0, .ref cd, .ref nmd, .ref pl, .ref tl, .ref fr_, .ref rw_, .ref brw, .int 0, .int 0, .ref po, .ref trc, .int 0, .int 0, .int 0, .ref wi, .ref sz_, .ref nu, .ref ca])), (nw, .inl (cy 0, 3567, .inl nw0)), (fd, .inl (cy 0, 7, .inl (fun _ => 0)))] H := hP
  refine lv_aload_n hx hb dL_law_443 rfl (lv_at hl 1 rfl) ?_
  refine lv_aload_n hx hb dL_law_444 rfl (lv_at hl 0 rfl) ?_
  refine lv_iload_n hx hb dL_law_445 rfl (lv_at hl 3 rfl) ?_
  refine lv_iconst (v := 1) hx hb dL_law_446 (by decide) ?_
  refine lv_iadd hx hb dL_law_447 ?_
  refine tp (v := 1) (by decide) ?_
  refine va_sld hx hb hX hbl hbA hS (vinL (by decide)) dL_law_448 ?_
  refine tp (v := (xs 1)) rfl ?_
  refine lv_aload_n hx hb dL_law_449 rfl (lv_at hl 0 rfl) ?_
  refine lv_iload_n hx hb dL_law_450 rfl (lv_at hl 3 rfl) ?_
  refine lv_iconst (v := 2) hx hb dL_law_451 (by decide) ?_
  refine lv_iadd hx hb dL_law_452 ?_
  refine tp (v := 2) (by decide) ?_
  refine va_sld hx hb hX hbl hbA hS (vinL (by decide)) dL_law_453 ?_
  refine tp (v := (xs 2)) rfl ?_
  refine wV (B := (fun _ => True)) (wr := [(mo, .inr (12, [.ref nw, .ref nk, .ref na, .int 0, .ref fd, .ref ea, .ref so, .int (-1), .ref nd, .int 0, .int 0, .int 0, .int 0, .int 0, .int 0, .ref cd, .ref nmd, .ref pl, .ref tl, .ref fr_, .ref rw_, .ref brw, .int 0, .int 0, .ref po, .ref trc, .int 0, .int 0, .int 0, .ref wi, .ref sz_, .ref nu, .ref ca])), (nw, .inl (cy 0, 3567, .inl nw0)), (fd, .inl (cy 0, 7, .inl (fun _ => 0)))]) (rest := []) hx hb hml hown hts hE (c_X11_air l G cy sk H.size x lv kp tr_ sh er re fi vo (fun _ => 0) lv st la le ta wa wk ld sr tx vl (xs 1) (xs 2)) kV_X11_air m_581 rfl rfl ⟨(Nat.le_of_ble_eq_true rfl), (Nat.le_of_ble_eq_true rfl)⟩ hP hD hS hA 0 rfl rfl rfl [0, 1, 2, 3] [4, 5, 6] rfl rfl rfl rfl (by decide) rfl rfl hl.1 (Nat.le_of_ble_eq_true rfl) dL_law_454 ⟨(Nat.le_of_ble_eq_true rfl), (Nat.le_of_ble_eq_true rfl)⟩ (fun r_1 H locs hr_ haf hS => ?_)
  obtain ⟨-, -, hP, hD⟩ := haf
  have hP : va_P G classes [(mo, .inr (12, [.ref nw, .ref nk, .ref na, .int 0, .ref fd, .ref ea, .ref so, .int (-1), .ref nd, .int 0, .int 0, .int 0, .int 0, .int 0, .int 0, .ref cd, .ref nmd, .ref pl, .ref tl, .ref fr_, .ref rw_, .ref brw, .int 0, .int 0, .ref po, .ref trc, .int 0, .int 0, .int 0, .ref wi, .ref sz_, .ref nu, .ref ca])), (nw, .inl (cy 0, 3567, .inl nw0)), (fd, .inl (cy 0, 7, .inl (fun _ => 0)))] H := hP
  have hD : va_D A [(mo, .inr (12, [.ref nw, .ref nk, .ref na, .int 0, .ref fd, .ref ea, .ref so, .int (-1), .ref nd, .int 0, .int 0, .int 0, .int 0, .int 0, .int 0, .ref cd, .ref nmd, .ref pl, .ref tl, .ref fr_, .ref rw_, .ref brw, .int 0, .int 0, .ref po, .ref trc, .int 0, .int 0, .int 0, .ref wi, .ref sz_, .ref nu, .ref ca])), (nw, .inl (cy 0, 3567, .inl nw0)), (fd, .inl (cy 0, 7, .inl (fun _ => 0)))] := hD
  subst hr_
  refine lv_aload_n hx hb dL_law_457 rfl (lv_at hl 2 rfl) ?_
  refine lv_aload_n hx hb dL_law_458 rfl (lv_at hl 0 rfl) ?_
  refine lv_iload_n hx hb dL_law_459 rfl (lv_at hl 3 rfl) ?_
  refine lv_iconst (v := 1) hx hb dL_law_460 (by decide) ?_
  refine lv_iadd hx hb dL_law_461 ?_
  refine tp (v := 1) (by decide) ?_
  refine va_sld hx hb hX hbl hbA hS (vinL (by decide)) dL_law_462 ?_
  refine tp (v := (xs 1)) rfl ?_
  refine lv_aload_n hx hb dL_law_463 rfl (lv_at hl 0 rfl) ?_
  refine lv_iload_n hx hb dL_law_464 rfl (lv_at hl 3 rfl) ?_
  refine lv_iconst (v := 2) hx hb dL_law_465 (by decide) ?_
  refine lv_iadd hx hb dL_law_466 ?_
  refine tp (v := 2) (by decide) ?_
  refine va_sld hx hb hX hbl hbA hS (vinL (by decide)) dL_law_467 ?_
  refine tp (v := (xs 2)) rfl ?_
  refine wV (B := (fun _ => True)) (wr := []) (rest := [.int (F_air (xs 1) (xs 2))]) hx hb hml hown hts hE (c_X12_air l G cy sk H.size mo nw nk na fd ea so nd cd nmd pl tl fr_ rw_ brw po trc wi sz_ nu ca (fun _ => 0) (xs 1) (xs 2)) kV_X12_air m_1501 rfl rfl ⟨(Nat.le_of_ble_eq_true rfl), (Nat.le_of_ble_eq_true rfl)⟩ hP hD hS hA 0 rfl rfl rfl [0, 1, 2] [] rfl rfl rfl rfl (by decide) rfl rfl hl.1 (Nat.le_of_ble_eq_true rfl) dL_law_468 ⟨(Nat.le_of_ble_eq_true rfl), (Nat.le_of_ble_eq_true rfl)⟩ (fun r_2 H locs hr_ haf hS => ?_)
  obtain ⟨-, -, hP, hD⟩ := haf
  have hP : va_P G classes [] H := hP
  have hD : va_D A [] := hD
  subst hr_
  refine lv_icmp_eq (tgt := 1731) hx hb dL_law_471 (by decide) (fun _ => ?_) (fun h9 => absurd rfl h9)
  exact hend H locs ls hS (lv_sub hl [0, 3] rfl)
set_option maxHeartbeats 4000000 in
set_option maxRecDepth 100000 in
theorem law_case_8 {p : Program} {e : Env} {s : State} {m : MethodId} {below : List Frame} {meth : Method} {c : Code} {Q : State → Prop} (l : Launch) {b : Nat} {xs : Nat → Int32} {A : Nat → Prop} {G : va_G} {cy : Nat → ClassId} {sk : Nat → Nat} {H : Heap} {locs : List Loc} {ls : Array Slot} (x : Nat) (lv : Nat) (kp : Nat) (tr_ : Nat) (sh : Nat) (er : Nat) (re : Nat) (fi : Nat) (vo : Nat) (st : Nat) (oc : Nat) (ki : Nat) (ce : Nat) (si : Nat) (sp : Nat) (la : Nat) (le : Nat) (ta : Nat) (wa : Nat) (wk : Nat) (w0 : Nat) (wy : Nat) (wn : Nat) (foc : Nat → Int32) (gw : Nat → Option Nat) (mo : Nat) (nw : Nat) (nk : Nat) (na : Nat) (fd : Nat) (ea : Nat) (so : Nat) (nd : Nat) (cd : Nat) (nmd : Nat) (pl : Nat) (tl : Nat) (fr_ : Nat) (rw_ : Nat) (brw : Nat) (po : Nat) (trc : Nat) (wi : Nat) (sz_ : Nat) (nu : Nat) (ca : Nat) (X0 : ∀ j, j < 192 → foc j = (-1)) (X5 : gw 0 = some w0) : p.tables.exec = Jvm.exec → c.code = code → c.maxLocals = 4 → s.vm.findClass RL = some m.cls → (∀ w ∈ BASE, w.before #[Value.ref b] s = true) → EN G cy sk s → va_X b 6 xs s s.heap → b < s.heap.size → ¬ A b → (∀ q, s.heap.size ≤ q → A q) → va_P G classes [(x, .inr (11, [.ref lv, .ref kp, .ref tr_, .ref sh, .ref er, .ref re, .ref fi, .ref vo, .int 0])), (er, .inl (cy 0, 7, .inl (fun _ => 0))), (lv, .inr (10, [.ref st, .ref la, .ref le, .ref ta, .ref wa, .ref wk, .int 0, .int 0])), (st, .inr (7, [.ref oc, .ref ki, .ref ce, .ref si, .ref sp, .int 0])), (oc, .inl (cy 0, 192, .inl foc)), (wk, .inl (cy 4, 8, .inr (.inr (.inr (.inr gw))))), (w0, .inr (9, [.int 0, .int 0, .int 0, .int 5, .int 60, .int 0, .int 0, .int 0, .int 0, .ref wy, .ref wn])), (wy, .inl (cy 0, 192, .inl (fun _ => 0))), (wn, .inl (cy 0, 192, .inl (fun _ => 0))), (mo, .inr (12, [.ref nw, .ref nk, .ref na, .int 0, .ref fd, .ref ea, .ref so, .int (-1), .ref nd, .int 0, .int 0, .int 0, .int 0, .int 0, .int 0, .ref cd, .ref nmd, .ref pl, .ref tl, .ref fr_, .ref rw_, .ref brw, .int 0, .int 0, .ref po, .ref trc, .int 0, .int 0, .int 0, .ref wi, .ref sz_, .ref nu, .ref ca])), (nw, .inl (cy 0, 3567, .inl nw0)), (fd, .inl (cy 0, 7, .inl (fun _ => 0)))] H → va_D A [(x, .inr (11, [.ref lv, .ref kp, .ref tr_, .ref sh, .ref er, .ref re, .ref fi, .ref vo, .int 0])), (er, .inl (cy 0, 7, .inl (fun _ => 0))), (lv, .inr (10, [.ref st, .ref la, .ref le, .ref ta, .ref wa, .ref wk, .int 0, .int 0])), (st, .inr (7, [.ref oc, .ref ki, .ref ce, .ref si, .ref sp, .int 0])), (oc, .inl (cy 0, 192, .inl foc)), (wk, .inl (cy 4, 8, .inr (.inr (.inr (.inr gw))))), (w0, .inr (9, [.int 0, .int 0, .int 0, .int 5, .int 60, .int 0, .int 0, .int 0, .int 0, .ref wy, .ref wn])), (wy, .inl (cy 0, 192, .inl (fun _ => 0))), (wn, .inl (cy 0, 192, .inl (fun _ => 0))), (mo, .inr (12, [.ref nw, .ref nk, .ref na, .int 0, .ref fd, .ref ea, .ref so, .int (-1), .ref nd, .int 0, .int 0, .int 0, .int 0, .int 0, .int 0, .ref cd, .ref nmd, .ref pl, .ref tl, .ref fr_, .ref rw_, .ref brw, .int 0, .int 0, .ref po, .ref trc, .int 0, .int 0, .int 0, .ref wi, .ref sz_, .ref nu, .ref ca])), (nw, .inl (cy 0, 3567, .inl nw0)), (fd, .inl (cy 0, 7, .inl (fun _ => 0)))] → va_S A s.heap H locs → lv_has ls 4 [(0, .ref b), (1, .ref x), (2, .ref mo), (3, .int 0)] → (∀ (H : Heap) (locs : List Loc) (ls : Array Slot), va_S A s.heap H locs → lv_has ls 4 [(0, .ref b), (3, .int 0)] → W p l e room_1 s m #[Value.ref b] below meth c H locs 222 26621 Q (F0 m 1731 ls [])) → W p l e room_1 s m #[Value.ref b] below meth c H locs 222 26621 Q (F0 m 476 ls []) := by
  intro hx hb hml hown hts hE hX hbl hbA hA hP hD hS hl hend
  have hP : va_P G classes [(x, .inr (11, [.ref lv, .ref kp, .ref tr_, .ref sh, .ref er, .ref re, .ref fi, .ref vo, .int 0])), (er, .inl (cy 0, 7, .inl (fun _ => 0))), (lv, .inr (10, [.ref st, .ref la, .ref le, .ref ta, .ref wa, .ref wk, .int 0, .int 0])), (st, .inr (7, [.ref oc, .ref ki, .ref ce, .ref si, .ref sp, .int 0])), (oc, .inl (cy 0, 192, .inl foc)), (wk, .inl (cy 4, 8, .inr (.inr (.inr (.inr gw))))), (w0, .inr (9, [.int 0, .int 0, .int 0, .int 5, .int 60, .int 0, .int 0, .int 0, .int 0, .ref wy, .ref wn])), (wy, .inl (cy 0, 192, .inl (fun _ => 0))), (wn, .inl (cy 0, 192, .inl (fun _ => 0))), (mo, .inr (12, [.ref nw, .ref nk, .ref na, .int 0, .ref fd, .ref ea, .ref so, .int (-1), .ref nd, .int 0, .int 0, .int 0, .int 0, .int 0, .int 0, .ref cd, .ref nmd, .ref pl, .ref tl, .ref fr_, .ref rw_, .ref brw, .int 0, .int 0, .ref po, .ref trc, .int 0, .int 0, .int 0, .ref wi, .ref sz_, .ref nu, .ref ca])), (nw, .inl (cy 0, 3567, .inl nw0)), (fd, .inl (cy 0, 7, .inl (fun _ => 0)))] H := hP
  refine lv_aload_n hx hb dL_law_476 rfl (lv_at hl 1 rfl) ?_
  refine lv_aload_n hx hb dL_law_477 rfl (lv_at hl 0 rfl) ?_
  refine lv_iload_n hx hb dL_law_478 rfl (lv_at hl 3 rfl) ?_
  refine lv_iconst (v := 1) hx hb dL_law_479 (by decide) ?_
  refine lv_iadd hx hb dL_law_480 ?_
  refine tp (v := 1) (by decide) ?_
  refine va_sld hx hb hX hbl hbA hS (vinL (by decide)) dL_law_481 ?_
  refine tp (v := (xs 1)) rfl ?_
  refine lv_aload_n hx hb dL_law_482 rfl (lv_at hl 0 rfl) ?_
  refine lv_iload_n hx hb dL_law_483 rfl (lv_at hl 3 rfl) ?_
  refine lv_iconst (v := 2) hx hb dL_law_484 (by decide) ?_
  refine lv_iadd hx hb dL_law_485 ?_
  refine tp (v := 2) (by decide) ?_
  refine va_sld hx hb hX hbl hbA hS (vinL (by decide)) dL_law_486 ?_
  refine tp (v := (xs 2)) rfl ?_
  refine lv_aload_n hx hb dL_law_487 rfl (lv_at hl 0 rfl) ?_
  refine lv_iload_n hx hb dL_law_488 rfl (lv_at hl 3 rfl) ?_
  refine lv_iconst (v := 3) hx hb dL_law_489 (by decide) ?_
  refine lv_iadd hx hb dL_law_490 ?_
  refine tp (v := 3) (by decide) ?_
  refine va_sld hx hb hX hbl hbA hS (vinL (by decide)) dL_law_491 ?_
  refine tp (v := (xs 3)) rfl ?_
  refine wV (B := (fun _ => True)) (wr := [(mo, .inr (12, [.ref nw, .ref nk, .ref na, .int 0, .ref fd, .ref ea, .ref so, .int (-1), .ref nd, .int 0, .int 0, .int 0, .int 0, .int 0, .int 0, .ref cd, .ref nmd, .ref pl, .ref tl, .ref fr_, .ref rw_, .ref brw, .int 0, .int 0, .ref po, .ref trc, .int 0, .int 0, .int 0, .ref wi, .ref sz_, .ref nu, .ref ca])), (nw, .inl (cy 0, 3567, .inl nw0)), (fd, .inl (cy 0, 7, .inl (fun _ => 0)))]) (rest := []) hx hb hml hown hts hE (c_X11_walker l G cy sk H.size x lv kp tr_ sh er re fi vo (fun _ => 0) lv st la le ta wa wk oc ki ce si sp foc gw w0 wy wn (fun _ => 0) (fun _ => 0) (xs 1) (xs 2) (xs 3) X0 X5) kV_X11_walker m_589 rfl rfl ⟨(Nat.le_of_ble_eq_true rfl), (Nat.le_of_ble_eq_true rfl)⟩ hP hD hS hA 0 rfl rfl rfl [0, 1, 2, 3, 4, 5, 6, 7, 8] [9, 10, 11] rfl rfl rfl rfl (by decide) rfl rfl hl.1 (Nat.le_of_ble_eq_true rfl) dL_law_492 ⟨(Nat.le_of_ble_eq_true rfl), (Nat.le_of_ble_eq_true rfl)⟩ (fun r_1 H locs hr_ haf hS => ?_)
  obtain ⟨-, -, hP, hD⟩ := haf
  have hP : va_P G classes [(mo, .inr (12, [.ref nw, .ref nk, .ref na, .int 0, .ref fd, .ref ea, .ref so, .int (-1), .ref nd, .int 0, .int 0, .int 0, .int 0, .int 0, .int 0, .ref cd, .ref nmd, .ref pl, .ref tl, .ref fr_, .ref rw_, .ref brw, .int 0, .int 0, .ref po, .ref trc, .int 0, .int 0, .int 0, .ref wi, .ref sz_, .ref nu, .ref ca])), (nw, .inl (cy 0, 3567, .inl nw0)), (fd, .inl (cy 0, 7, .inl (fun _ => 0)))] H := hP
  have hD : va_D A [(mo, .inr (12, [.ref nw, .ref nk, .ref na, .int 0, .ref fd, .ref ea, .ref so, .int (-1), .ref nd, .int 0, .int 0, .int 0, .int 0, .int 0, .int 0, .ref cd, .ref nmd, .ref pl, .ref tl, .ref fr_, .ref rw_, .ref brw, .int 0, .int 0, .ref po, .ref trc, .int 0, .int 0, .int 0, .ref wi, .ref sz_, .ref nu, .ref ca])), (nw, .inl (cy 0, 3567, .inl nw0)), (fd, .inl (cy 0, 7, .inl (fun _ => 0)))] := hD
  subst hr_
  refine lv_aload_n hx hb dL_law_495 rfl (lv_at hl 2 rfl) ?_
  refine lv_aload_n hx hb dL_law_496 rfl (lv_at hl 0 rfl) ?_
  refine lv_iload_n hx hb dL_law_497 rfl (lv_at hl 3 rfl) ?_
  refine lv_iconst (v := 1) hx hb dL_law_498 (by decide) ?_
  refine lv_iadd hx hb dL_law_499 ?_
  refine tp (v := 1) (by decide) ?_
  refine va_sld hx hb hX hbl hbA hS (vinL (by decide)) dL_law_500 ?_
  refine tp (v := (xs 1)) rfl ?_
  refine lv_aload_n hx hb dL_law_501 rfl (lv_at hl 0 rfl) ?_
  refine lv_iload_n hx hb dL_law_502 rfl (lv_at hl 3 rfl) ?_
  refine lv_iconst (v := 2) hx hb dL_law_503 (by decide) ?_
  refine lv_iadd hx hb dL_law_504 ?_
  refine tp (v := 2) (by decide) ?_
  refine va_sld hx hb hX hbl hbA hS (vinL (by decide)) dL_law_505 ?_
  refine tp (v := (xs 2)) rfl ?_
  refine lv_aload_n hx hb dL_law_506 rfl (lv_at hl 0 rfl) ?_
  refine lv_iload_n hx hb dL_law_507 rfl (lv_at hl 3 rfl) ?_
  refine lv_iconst (v := 3) hx hb dL_law_508 (by decide) ?_
  refine lv_iadd hx hb dL_law_509 ?_
  refine tp (v := 3) (by decide) ?_
  refine va_sld hx hb hX hbl hbA hS (vinL (by decide)) dL_law_510 ?_
  refine tp (v := (xs 3)) rfl ?_
  refine wV (B := (fun _ => True)) (wr := []) (rest := [.int (F_walker (xs 1) (xs 2) (xs 3))]) hx hb hml hown hts hE (c_X12_walker l G cy sk H.size mo nw nk na fd ea so nd cd nmd pl tl fr_ rw_ brw po trc wi sz_ nu ca (fun _ => 0) (xs 1) (xs 2) (xs 3)) kV_X12_walker m_1505 rfl rfl ⟨(Nat.le_of_ble_eq_true rfl), (Nat.le_of_ble_eq_true rfl)⟩ hP hD hS hA 0 rfl rfl rfl [0, 1, 2] [] rfl rfl rfl rfl (by decide) rfl rfl hl.1 (Nat.le_of_ble_eq_true rfl) dL_law_511 ⟨(Nat.le_of_ble_eq_true rfl), (Nat.le_of_ble_eq_true rfl)⟩ (fun r_2 H locs hr_ haf hS => ?_)
  obtain ⟨-, -, hP, hD⟩ := haf
  have hP : va_P G classes [] H := hP
  have hD : va_D A [] := hD
  subst hr_
  refine lv_icmp_eq (tgt := 1731) hx hb dL_law_514 (by decide) (fun _ => ?_) (fun h9 => absurd rfl h9)
  exact hend H locs ls hS (lv_sub hl [0, 3] rfl)
set_option maxHeartbeats 4000000 in
set_option maxRecDepth 100000 in
theorem law_case_9 {p : Program} {e : Env} {s : State} {m : MethodId} {below : List Frame} {meth : Method} {c : Code} {Q : State → Prop} (l : Launch) {b : Nat} {xs : Nat → Int32} {A : Nat → Prop} {G : va_G} {cy : Nat → ClassId} {sk : Nat → Nat} {H : Heap} {locs : List Loc} {ls : Array Slot} (x : Nat) (lv : Nat) (kp : Nat) (tr_ : Nat) (sh : Nat) (er : Nat) (re : Nat) (fi : Nat) (vo : Nat) (st : Nat) (la : Nat) (le : Nat) (ta : Nat) (wa : Nat) (wk : Nat) (mo : Nat) (nw : Nat) (nk : Nat) (na : Nat) (fd : Nat) (ea : Nat) (so : Nat) (nd : Nat) (cd : Nat) (nmd : Nat) (pl : Nat) (tl : Nat) (fr_ : Nat) (rw_ : Nat) (brw : Nat) (po : Nat) (trc : Nat) (wi : Nat) (sz_ : Nat) (nu : Nat) (ca : Nat)  : p.tables.exec = Jvm.exec → c.code = code → c.maxLocals = 4 → s.vm.findClass RL = some m.cls → (∀ w ∈ BASE, w.before #[Value.ref b] s = true) → EN G cy sk s → va_X b 6 xs s s.heap → b < s.heap.size → ¬ A b → (∀ q, s.heap.size ≤ q → A q) → va_P G classes [(x, .inr (11, [.ref lv, .ref kp, .ref tr_, .ref sh, .ref er, .ref re, .ref fi, .ref vo, .int 0])), (er, .inl (cy 0, 7, .inl (fun _ => 0))), (lv, .inr (10, [.ref st, .ref la, .ref le, .ref ta, .ref wa, .ref wk, .int 0, .int 0])), (mo, .inr (12, [.ref nw, .ref nk, .ref na, .int 0, .ref fd, .ref ea, .ref so, .int (-1), .ref nd, .int 0, .int 0, .int 0, .int 0, .int 0, .int 0, .ref cd, .ref nmd, .ref pl, .ref tl, .ref fr_, .ref rw_, .ref brw, .int 0, .int 0, .ref po, .ref trc, .int 0, .int 0, .int 0, .ref wi, .ref sz_, .ref nu, .ref ca])), (nw, .inl (cy 0, 3567, .inl nw0)), (fd, .inl (cy 0, 7, .inl (fun _ => 0)))] H → va_D A [(x, .inr (11, [.ref lv, .ref kp, .ref tr_, .ref sh, .ref er, .ref re, .ref fi, .ref vo, .int 0])), (er, .inl (cy 0, 7, .inl (fun _ => 0))), (lv, .inr (10, [.ref st, .ref la, .ref le, .ref ta, .ref wa, .ref wk, .int 0, .int 0])), (mo, .inr (12, [.ref nw, .ref nk, .ref na, .int 0, .ref fd, .ref ea, .ref so, .int (-1), .ref nd, .int 0, .int 0, .int 0, .int 0, .int 0, .int 0, .ref cd, .ref nmd, .ref pl, .ref tl, .ref fr_, .ref rw_, .ref brw, .int 0, .int 0, .ref po, .ref trc, .int 0, .int 0, .int 0, .ref wi, .ref sz_, .ref nu, .ref ca])), (nw, .inl (cy 0, 3567, .inl nw0)), (fd, .inl (cy 0, 7, .inl (fun _ => 0)))] → va_S A s.heap H locs → lv_has ls 4 [(0, .ref b), (1, .ref x), (2, .ref mo), (3, .int 0)] → (∀ (H : Heap) (locs : List Loc) (ls : Array Slot), va_S A s.heap H locs → lv_has ls 4 [(0, .ref b), (3, .int 0)] → W p l e room_1 s m #[Value.ref b] below meth c H locs 222 26621 Q (F0 m 1731 ls [])) → W p l e room_1 s m #[Value.ref b] below meth c H locs 222 26621 Q (F0 m 519 ls []) := by
  intro hx hb hml hown hts hE hX hbl hbA hA hP hD hS hl hend
  have hP : va_P G classes [(x, .inr (11, [.ref lv, .ref kp, .ref tr_, .ref sh, .ref er, .ref re, .ref fi, .ref vo, .int 0])), (er, .inl (cy 0, 7, .inl (fun _ => 0))), (lv, .inr (10, [.ref st, .ref la, .ref le, .ref ta, .ref wa, .ref wk, .int 0, .int 0])), (mo, .inr (12, [.ref nw, .ref nk, .ref na, .int 0, .ref fd, .ref ea, .ref so, .int (-1), .ref nd, .int 0, .int 0, .int 0, .int 0, .int 0, .int 0, .ref cd, .ref nmd, .ref pl, .ref tl, .ref fr_, .ref rw_, .ref brw, .int 0, .int 0, .ref po, .ref trc, .int 0, .int 0, .int 0, .ref wi, .ref sz_, .ref nu, .ref ca])), (nw, .inl (cy 0, 3567, .inl nw0)), (fd, .inl (cy 0, 7, .inl (fun _ => 0)))] H := hP
  refine lv_aload_n hx hb dL_law_519 rfl (lv_at hl 1 rfl) ?_
  refine lv_aload_n hx hb dL_law_520 rfl (lv_at hl 0 rfl) ?_
  refine lv_iload_n hx hb dL_law_521 rfl (lv_at hl 3 rfl) ?_
  refine lv_iconst (v := 1) hx hb dL_law_522 (by decide) ?_
  refine lv_iadd hx hb dL_law_523 ?_
  refine tp (v := 1) (by decide) ?_
  refine va_sld hx hb hX hbl hbA hS (vinL (by decide)) dL_law_524 ?_
  refine tp (v := (xs 1)) rfl ?_
  refine lv_aload_n hx hb dL_law_525 rfl (lv_at hl 0 rfl) ?_
  refine lv_iload_n hx hb dL_law_526 rfl (lv_at hl 3 rfl) ?_
  refine lv_iconst (v := 2) hx hb dL_law_527 (by decide) ?_
  refine lv_iadd hx hb dL_law_528 ?_
  refine tp (v := 2) (by decide) ?_
  refine va_sld hx hb hX hbl hbA hS (vinL (by decide)) dL_law_529 ?_
  refine tp (v := (xs 2)) rfl ?_
  refine wV (B := (fun _ => True)) (wr := [(mo, .inr (12, [.ref nw, .ref nk, .ref na, .int 0, .ref fd, .ref ea, .ref so, .int (-1), .ref nd, .int 0, .int 0, .int 0, .int 0, .int 0, .int 0, .ref cd, .ref nmd, .ref pl, .ref tl, .ref fr_, .ref rw_, .ref brw, .int 0, .int 0, .ref po, .ref trc, .int 0, .int 0, .int 0, .ref wi, .ref sz_, .ref nu, .ref ca])), (nw, .inl (cy 0, 3567, .inl nw0)), (fd, .inl (cy 0, 7, .inl (fun _ => 0)))]) (rest := []) hx hb hml hown hts hE (c_X11_walkerIs l G cy sk H.size x lv kp tr_ sh er re fi vo (fun _ => 0) lv st la le ta wa wk (xs 1) (xs 2)) kV_X11_walkerIs m_605 rfl rfl ⟨(Nat.le_of_ble_eq_true rfl), (Nat.le_of_ble_eq_true rfl)⟩ hP hD hS hA 0 rfl rfl rfl [0, 1, 2] [3, 4, 5] rfl rfl rfl rfl (by decide) rfl rfl hl.1 (Nat.le_of_ble_eq_true rfl) dL_law_530 ⟨(Nat.le_of_ble_eq_true rfl), (Nat.le_of_ble_eq_true rfl)⟩ (fun r_1 H locs hr_ haf hS => ?_)
  obtain ⟨-, -, hP, hD⟩ := haf
  have hP : va_P G classes [(mo, .inr (12, [.ref nw, .ref nk, .ref na, .int 0, .ref fd, .ref ea, .ref so, .int (-1), .ref nd, .int 0, .int 0, .int 0, .int 0, .int 0, .int 0, .ref cd, .ref nmd, .ref pl, .ref tl, .ref fr_, .ref rw_, .ref brw, .int 0, .int 0, .ref po, .ref trc, .int 0, .int 0, .int 0, .ref wi, .ref sz_, .ref nu, .ref ca])), (nw, .inl (cy 0, 3567, .inl nw0)), (fd, .inl (cy 0, 7, .inl (fun _ => 0)))] H := hP
  have hD : va_D A [(mo, .inr (12, [.ref nw, .ref nk, .ref na, .int 0, .ref fd, .ref ea, .ref so, .int (-1), .ref nd, .int 0, .int 0, .int 0, .int 0, .int 0, .int 0, .ref cd, .ref nmd, .ref pl, .ref tl, .ref fr_, .ref rw_, .ref brw, .int 0, .int 0, .ref po, .ref trc, .int 0, .int 0, .int 0, .ref wi, .ref sz_, .ref nu, .ref ca])), (nw, .inl (cy 0, 3567, .inl nw0)), (fd, .inl (cy 0, 7, .inl (fun _ => 0)))] := hD
  subst hr_
  refine lv_aload_n hx hb dL_law_533 rfl (lv_at hl 2 rfl) ?_
  refine lv_aload_n hx hb dL_law_534 rfl (lv_at hl 0 rfl) ?_
  refine lv_iload_n hx hb dL_law_535 rfl (lv_at hl 3 rfl) ?_
  refine lv_iconst (v := 1) hx hb dL_law_536 (by decide) ?_
  refine lv_iadd hx hb dL_law_537 ?_
  refine tp (v := 1) (by decide) ?_
  refine va_sld hx hb hX hbl hbA hS (vinL (by decide)) dL_law_538 ?_
  refine tp (v := (xs 1)) rfl ?_
  refine lv_aload_n hx hb dL_law_539 rfl (lv_at hl 0 rfl) ?_
  refine lv_iload_n hx hb dL_law_540 rfl (lv_at hl 3 rfl) ?_
  refine lv_iconst (v := 2) hx hb dL_law_541 (by decide) ?_
  refine lv_iadd hx hb dL_law_542 ?_
  refine tp (v := 2) (by decide) ?_
  refine va_sld hx hb hX hbl hbA hS (vinL (by decide)) dL_law_543 ?_
  refine tp (v := (xs 2)) rfl ?_
  refine wV (B := (fun _ => True)) (wr := []) (rest := [.int (-1000001)]) hx hb hml hown hts hE (c_X12_walkerIs l G cy sk H.size mo nw nk na fd ea so nd cd nmd pl tl fr_ rw_ brw po trc wi sz_ nu ca (fun _ => 0) (xs 1) (xs 2)) kV_X12_walkerIs m_1509 rfl rfl ⟨(Nat.le_of_ble_eq_true rfl), (Nat.le_of_ble_eq_true rfl)⟩ hP hD hS hA 0 rfl rfl rfl [0, 1, 2] [] rfl rfl rfl rfl (by decide) rfl rfl hl.1 (Nat.le_of_ble_eq_true rfl) dL_law_544 ⟨(Nat.le_of_ble_eq_true rfl), (Nat.le_of_ble_eq_true rfl)⟩ (fun r_2 H locs hr_ haf hS => ?_)
  obtain ⟨-, -, hP, hD⟩ := haf
  have hP : va_P G classes [] H := hP
  have hD : va_D A [] := hD
  subst hr_
  refine lv_icmp_eq (tgt := 1731) hx hb dL_law_547 (by decide) (fun _ => ?_) (fun h9 => absurd h9 (by decide))
  exact hend H locs ls hS (lv_sub hl [0, 3] rfl)
set_option maxHeartbeats 4000000 in
set_option maxRecDepth 100000 in
theorem law_case_10 {p : Program} {e : Env} {s : State} {m : MethodId} {below : List Frame} {meth : Method} {c : Code} {Q : State → Prop} (l : Launch) {b : Nat} {xs : Nat → Int32} {A : Nat → Prop} {G : va_G} {cy : Nat → ClassId} {sk : Nat → Nat} {H : Heap} {locs : List Loc} {ls : Array Slot} (x : Nat) (lv : Nat) (kp : Nat) (tr_ : Nat) (sh : Nat) (er : Nat) (re : Nat) (fi : Nat) (vo : Nat) (st : Nat) (la : Nat) (le : Nat) (ta : Nat) (wa : Nat) (wk : Nat) (mo : Nat) (nw : Nat) (nk : Nat) (na : Nat) (fd : Nat) (ea : Nat) (so : Nat) (nd : Nat) (cd : Nat) (nmd : Nat) (pl : Nat) (tl : Nat) (fr_ : Nat) (rw_ : Nat) (brw : Nat) (po : Nat) (trc : Nat) (wi : Nat) (sz_ : Nat) (nu : Nat) (ca : Nat)  : p.tables.exec = Jvm.exec → c.code = code → c.maxLocals = 4 → s.vm.findClass RL = some m.cls → (∀ w ∈ BASE, w.before #[Value.ref b] s = true) → EN G cy sk s → va_X b 6 xs s s.heap → b < s.heap.size → ¬ A b → (∀ q, s.heap.size ≤ q → A q) → va_P G classes [(x, .inr (11, [.ref lv, .ref kp, .ref tr_, .ref sh, .ref er, .ref re, .ref fi, .ref vo, .int 0])), (er, .inl (cy 0, 7, .inl (fun _ => 0))), (lv, .inr (10, [.ref st, .ref la, .ref le, .ref ta, .ref wa, .ref wk, .int 0, .int 0])), (mo, .inr (12, [.ref nw, .ref nk, .ref na, .int 0, .ref fd, .ref ea, .ref so, .int (-1), .ref nd, .int 0, .int 0, .int 0, .int 0, .int 0, .int 0, .ref cd, .ref nmd, .ref pl, .ref tl, .ref fr_, .ref rw_, .ref brw, .int 0, .int 0, .ref po, .ref trc, .int 0, .int 0, .int 0, .ref wi, .ref sz_, .ref nu, .ref ca])), (nw, .inl (cy 0, 3567, .inl nw0)), (fd, .inl (cy 0, 7, .inl (fun _ => 0)))] H → va_D A [(x, .inr (11, [.ref lv, .ref kp, .ref tr_, .ref sh, .ref er, .ref re, .ref fi, .ref vo, .int 0])), (er, .inl (cy 0, 7, .inl (fun _ => 0))), (lv, .inr (10, [.ref st, .ref la, .ref le, .ref ta, .ref wa, .ref wk, .int 0, .int 0])), (mo, .inr (12, [.ref nw, .ref nk, .ref na, .int 0, .ref fd, .ref ea, .ref so, .int (-1), .ref nd, .int 0, .int 0, .int 0, .int 0, .int 0, .int 0, .ref cd, .ref nmd, .ref pl, .ref tl, .ref fr_, .ref rw_, .ref brw, .int 0, .int 0, .ref po, .ref trc, .int 0, .int 0, .int 0, .ref wi, .ref sz_, .ref nu, .ref ca])), (nw, .inl (cy 0, 3567, .inl nw0)), (fd, .inl (cy 0, 7, .inl (fun _ => 0)))] → va_S A s.heap H locs → lv_has ls 4 [(0, .ref b), (1, .ref x), (2, .ref mo), (3, .int 0)] → (∀ (H : Heap) (locs : List Loc) (ls : Array Slot), va_S A s.heap H locs → lv_has ls 4 [(0, .ref b), (3, .int 0)] → W p l e room_1 s m #[Value.ref b] below meth c H locs 222 26621 Q (F0 m 1731 ls [])) → W p l e room_1 s m #[Value.ref b] below meth c H locs 222 26621 Q (F0 m 552 ls []) := by
  intro hx hb hml hown hts hE hX hbl hbA hA hP hD hS hl hend
  have hP : va_P G classes [(x, .inr (11, [.ref lv, .ref kp, .ref tr_, .ref sh, .ref er, .ref re, .ref fi, .ref vo, .int 0])), (er, .inl (cy 0, 7, .inl (fun _ => 0))), (lv, .inr (10, [.ref st, .ref la, .ref le, .ref ta, .ref wa, .ref wk, .int 0, .int 0])), (mo, .inr (12, [.ref nw, .ref nk, .ref na, .int 0, .ref fd, .ref ea, .ref so, .int (-1), .ref nd, .int 0, .int 0, .int 0, .int 0, .int 0, .int 0, .ref cd, .ref nmd, .ref pl, .ref tl, .ref fr_, .ref rw_, .ref brw, .int 0, .int 0, .ref po, .ref trc, .int 0, .int 0, .int 0, .ref wi, .ref sz_, .ref nu, .ref ca])), (nw, .inl (cy 0, 3567, .inl nw0)), (fd, .inl (cy 0, 7, .inl (fun _ => 0)))] H := hP
  refine lv_aload_n hx hb dL_law_552 rfl (lv_at hl 1 rfl) ?_
  refine lv_aload_n hx hb dL_law_553 rfl (lv_at hl 0 rfl) ?_
  refine lv_iload_n hx hb dL_law_554 rfl (lv_at hl 3 rfl) ?_
  refine lv_iconst (v := 1) hx hb dL_law_555 (by decide) ?_
  refine lv_iadd hx hb dL_law_556 ?_
  refine tp (v := 1) (by decide) ?_
  refine va_sld hx hb hX hbl hbA hS (vinL (by decide)) dL_law_557 ?_
  refine tp (v := (xs 1)) rfl ?_
  refine lv_aload_n hx hb dL_law_558 rfl (lv_at hl 0 rfl) ?_
  refine lv_iload_n hx hb dL_law_559 rfl (lv_at hl 3 rfl) ?_
  refine lv_iconst (v := 2) hx hb dL_law_560 (by decide) ?_
  refine lv_iadd hx hb dL_law_561 ?_
  refine tp (v := 2) (by decide) ?_
  refine va_sld hx hb hX hbl hbA hS (vinL (by decide)) dL_law_562 ?_
  refine tp (v := (xs 2)) rfl ?_
  refine wV (B := (fun _ => True)) (wr := [(mo, .inr (12, [.ref nw, .ref nk, .ref na, .int 0, .ref fd, .ref ea, .ref so, .int (-1), .ref nd, .int 0, .int 0, .int 0, .int 0, .int 0, .int 0, .ref cd, .ref nmd, .ref pl, .ref tl, .ref fr_, .ref rw_, .ref brw, .int 0, .int 0, .ref po, .ref trc, .int 0, .int 0, .int 0, .ref wi, .ref sz_, .ref nu, .ref ca])), (nw, .inl (cy 0, 3567, .inl nw0)), (fd, .inl (cy 0, 7, .inl (fun _ => 0)))]) (rest := []) hx hb hml hown hts hE (c_X11_as l G cy sk H.size x lv kp tr_ sh er re fi vo (fun _ => 0) lv st la le ta wa wk (xs 1) (xs 2)) kV_X11_as m_635 rfl rfl ⟨(Nat.le_of_ble_eq_true rfl), (Nat.le_of_ble_eq_true rfl)⟩ hP hD hS hA 0 rfl rfl rfl [0, 1, 2] [3, 4, 5] rfl rfl rfl rfl (by decide) rfl rfl hl.1 (Nat.le_of_ble_eq_true rfl) dL_law_563 ⟨(Nat.le_of_ble_eq_true rfl), (Nat.le_of_ble_eq_true rfl)⟩ (fun r_1 H locs hr_ haf hS => ?_)
  obtain ⟨-, -, hP, hD⟩ := haf
  have hP : va_P G classes [(mo, .inr (12, [.ref nw, .ref nk, .ref na, .int 0, .ref fd, .ref ea, .ref so, .int (-1), .ref nd, .int 0, .int 0, .int 0, .int 0, .int 0, .int 0, .ref cd, .ref nmd, .ref pl, .ref tl, .ref fr_, .ref rw_, .ref brw, .int 0, .int 0, .ref po, .ref trc, .int 0, .int 0, .int 0, .ref wi, .ref sz_, .ref nu, .ref ca])), (nw, .inl (cy 0, 3567, .inl nw0)), (fd, .inl (cy 0, 7, .inl (fun _ => 0)))] H := hP
  have hD : va_D A [(mo, .inr (12, [.ref nw, .ref nk, .ref na, .int 0, .ref fd, .ref ea, .ref so, .int (-1), .ref nd, .int 0, .int 0, .int 0, .int 0, .int 0, .int 0, .ref cd, .ref nmd, .ref pl, .ref tl, .ref fr_, .ref rw_, .ref brw, .int 0, .int 0, .ref po, .ref trc, .int 0, .int 0, .int 0, .ref wi, .ref sz_, .ref nu, .ref ca])), (nw, .inl (cy 0, 3567, .inl nw0)), (fd, .inl (cy 0, 7, .inl (fun _ => 0)))] := hD
  subst hr_
  refine lv_aload_n hx hb dL_law_566 rfl (lv_at hl 2 rfl) ?_
  refine lv_aload_n hx hb dL_law_567 rfl (lv_at hl 0 rfl) ?_
  refine lv_iload_n hx hb dL_law_568 rfl (lv_at hl 3 rfl) ?_
  refine lv_iconst (v := 1) hx hb dL_law_569 (by decide) ?_
  refine lv_iadd hx hb dL_law_570 ?_
  refine tp (v := 1) (by decide) ?_
  refine va_sld hx hb hX hbl hbA hS (vinL (by decide)) dL_law_571 ?_
  refine tp (v := (xs 1)) rfl ?_
  refine lv_aload_n hx hb dL_law_572 rfl (lv_at hl 0 rfl) ?_
  refine lv_iload_n hx hb dL_law_573 rfl (lv_at hl 3 rfl) ?_
  refine lv_iconst (v := 2) hx hb dL_law_574 (by decide) ?_
  refine lv_iadd hx hb dL_law_575 ?_
  refine tp (v := 2) (by decide) ?_
  refine va_sld hx hb hX hbl hbA hS (vinL (by decide)) dL_law_576 ?_
  refine tp (v := (xs 2)) rfl ?_
  refine wV (B := (fun _ => True)) (wr := []) (rest := [.int (-1000001)]) hx hb hml hown hts hE (c_X12_as l G cy sk H.size mo nw nk na fd ea so nd cd nmd pl tl fr_ rw_ brw po trc wi sz_ nu ca (fun _ => 0) (xs 1) (xs 2)) kV_X12_as m_1528 rfl rfl ⟨(Nat.le_of_ble_eq_true rfl), (Nat.le_of_ble_eq_true rfl)⟩ hP hD hS hA 0 rfl rfl rfl [0, 1, 2] [] rfl rfl rfl rfl (by decide) rfl rfl hl.1 (Nat.le_of_ble_eq_true rfl) dL_law_577 ⟨(Nat.le_of_ble_eq_true rfl), (Nat.le_of_ble_eq_true rfl)⟩ (fun r_2 H locs hr_ haf hS => ?_)
  obtain ⟨-, -, hP, hD⟩ := haf
  have hP : va_P G classes [] H := hP
  have hD : va_D A [] := hD
  subst hr_
  refine lv_icmp_eq (tgt := 1731) hx hb dL_law_580 (by decide) (fun _ => ?_) (fun h9 => absurd h9 (by decide))
  exact hend H locs ls hS (lv_sub hl [0, 3] rfl)
set_option maxHeartbeats 4000000 in
set_option maxRecDepth 100000 in
theorem law_case_11 {p : Program} {e : Env} {s : State} {m : MethodId} {below : List Frame} {meth : Method} {c : Code} {Q : State → Prop} (l : Launch) {b : Nat} {xs : Nat → Int32} {A : Nat → Prop} {G : va_G} {cy : Nat → ClassId} {sk : Nat → Nat} {H : Heap} {locs : List Loc} {ls : Array Slot} (x : Nat) (lv : Nat) (kp : Nat) (tr_ : Nat) (sh : Nat) (er : Nat) (re : Nat) (fi : Nat) (vo : Nat) (st : Nat) (la : Nat) (le : Nat) (ta : Nat) (wa : Nat) (wk : Nat) (mo : Nat) (nw : Nat) (nk : Nat) (na : Nat) (fd : Nat) (ea : Nat) (so : Nat) (nd : Nat) (cd : Nat) (nmd : Nat) (pl : Nat) (tl : Nat) (fr_ : Nat) (rw_ : Nat) (brw : Nat) (po : Nat) (trc : Nat) (wi : Nat) (sz_ : Nat) (nu : Nat) (ca : Nat)  : p.tables.exec = Jvm.exec → c.code = code → c.maxLocals = 4 → s.vm.findClass RL = some m.cls → (∀ w ∈ BASE, w.before #[Value.ref b] s = true) → EN G cy sk s → va_X b 6 xs s s.heap → b < s.heap.size → ¬ A b → (∀ q, s.heap.size ≤ q → A q) → va_P G classes [(x, .inr (11, [.ref lv, .ref kp, .ref tr_, .ref sh, .ref er, .ref re, .ref fi, .ref vo, .int 0])), (er, .inl (cy 0, 7, .inl (fun _ => 0))), (lv, .inr (10, [.ref st, .ref la, .ref le, .ref ta, .ref wa, .ref wk, .int 0, .int 0])), (mo, .inr (12, [.ref nw, .ref nk, .ref na, .int 0, .ref fd, .ref ea, .ref so, .int (-1), .ref nd, .int 0, .int 0, .int 0, .int 0, .int 0, .int 0, .ref cd, .ref nmd, .ref pl, .ref tl, .ref fr_, .ref rw_, .ref brw, .int 0, .int 0, .ref po, .ref trc, .int 0, .int 0, .int 0, .ref wi, .ref sz_, .ref nu, .ref ca])), (nw, .inl (cy 0, 3567, .inl nw0)), (fd, .inl (cy 0, 7, .inl (fun _ => 0)))] H → va_D A [(x, .inr (11, [.ref lv, .ref kp, .ref tr_, .ref sh, .ref er, .ref re, .ref fi, .ref vo, .int 0])), (er, .inl (cy 0, 7, .inl (fun _ => 0))), (lv, .inr (10, [.ref st, .ref la, .ref le, .ref ta, .ref wa, .ref wk, .int 0, .int 0])), (mo, .inr (12, [.ref nw, .ref nk, .ref na, .int 0, .ref fd, .ref ea, .ref so, .int (-1), .ref nd, .int 0, .int 0, .int 0, .int 0, .int 0, .int 0, .ref cd, .ref nmd, .ref pl, .ref tl, .ref fr_, .ref rw_, .ref brw, .int 0, .int 0, .ref po, .ref trc, .int 0, .int 0, .int 0, .ref wi, .ref sz_, .ref nu, .ref ca])), (nw, .inl (cy 0, 3567, .inl nw0)), (fd, .inl (cy 0, 7, .inl (fun _ => 0)))] → va_S A s.heap H locs → lv_has ls 4 [(0, .ref b), (1, .ref x), (2, .ref mo), (3, .int 0)] → (∀ (H : Heap) (locs : List Loc) (ls : Array Slot), va_S A s.heap H locs → lv_has ls 4 [(0, .ref b), (3, .int 0)] → W p l e room_1 s m #[Value.ref b] below meth c H locs 222 26621 Q (F0 m 1731 ls [])) → W p l e room_1 s m #[Value.ref b] below meth c H locs 222 26621 Q (F0 m 585 ls []) := by
  intro hx hb hml hown hts hE hX hbl hbA hA hP hD hS hl hend
  have hP : va_P G classes [(x, .inr (11, [.ref lv, .ref kp, .ref tr_, .ref sh, .ref er, .ref re, .ref fi, .ref vo, .int 0])), (er, .inl (cy 0, 7, .inl (fun _ => 0))), (lv, .inr (10, [.ref st, .ref la, .ref le, .ref ta, .ref wa, .ref wk, .int 0, .int 0])), (mo, .inr (12, [.ref nw, .ref nk, .ref na, .int 0, .ref fd, .ref ea, .ref so, .int (-1), .ref nd, .int 0, .int 0, .int 0, .int 0, .int 0, .int 0, .ref cd, .ref nmd, .ref pl, .ref tl, .ref fr_, .ref rw_, .ref brw, .int 0, .int 0, .ref po, .ref trc, .int 0, .int 0, .int 0, .ref wi, .ref sz_, .ref nu, .ref ca])), (nw, .inl (cy 0, 3567, .inl nw0)), (fd, .inl (cy 0, 7, .inl (fun _ => 0)))] H := hP
  refine lv_aload_n hx hb dL_law_585 rfl (lv_at hl 1 rfl) ?_
  refine lv_aload_n hx hb dL_law_586 rfl (lv_at hl 0 rfl) ?_
  refine lv_iload_n hx hb dL_law_587 rfl (lv_at hl 3 rfl) ?_
  refine lv_iconst (v := 1) hx hb dL_law_588 (by decide) ?_
  refine lv_iadd hx hb dL_law_589 ?_
  refine tp (v := 1) (by decide) ?_
  refine va_sld hx hb hX hbl hbA hS (vinL (by decide)) dL_law_590 ?_
  refine tp (v := (xs 1)) rfl ?_
  refine lv_aload_n hx hb dL_law_591 rfl (lv_at hl 0 rfl) ?_
  refine lv_iload_n hx hb dL_law_592 rfl (lv_at hl 3 rfl) ?_
  refine lv_iconst (v := 2) hx hb dL_law_593 (by decide) ?_
  refine lv_iadd hx hb dL_law_594 ?_
  refine tp (v := 2) (by decide) ?_
  refine va_sld hx hb hX hbl hbA hS (vinL (by decide)) dL_law_595 ?_
  refine tp (v := (xs 2)) rfl ?_
  refine lv_aload_n hx hb dL_law_596 rfl (lv_at hl 0 rfl) ?_
  refine lv_iload_n hx hb dL_law_597 rfl (lv_at hl 3 rfl) ?_
  refine lv_iconst (v := 3) hx hb dL_law_598 (by decide) ?_
  refine lv_iadd hx hb dL_law_599 ?_
  refine tp (v := 3) (by decide) ?_
  refine va_sld hx hb hX hbl hbA hS (vinL (by decide)) dL_law_600 ?_
  refine tp (v := (xs 3)) rfl ?_
  refine lv_aload_n hx hb dL_law_601 rfl (lv_at hl 0 rfl) ?_
  refine lv_iload_n hx hb dL_law_602 rfl (lv_at hl 3 rfl) ?_
  refine lv_iconst (v := 4) hx hb dL_law_603 (by decide) ?_
  refine lv_iadd hx hb dL_law_604 ?_
  refine tp (v := 4) (by decide) ?_
  refine va_sld hx hb hX hbl hbA hS (vinL (by decide)) dL_law_605 ?_
  refine tp (v := (xs 4)) rfl ?_
  refine wV (B := (fun _ => True)) (wr := [(mo, .inr (12, [.ref nw, .ref nk, .ref na, .int 0, .ref fd, .ref ea, .ref so, .int (-1), .ref nd, .int 0, .int 0, .int 0, .int 0, .int 0, .int 0, .ref cd, .ref nmd, .ref pl, .ref tl, .ref fr_, .ref rw_, .ref brw, .int 0, .int 0, .ref po, .ref trc, .int 0, .int 0, .int 0, .ref wi, .ref sz_, .ref nu, .ref ca])), (nw, .inl (cy 0, 3567, .inl nw0)), (fd, .inl (cy 0, 7, .inl (fun _ => 0)))]) (rest := []) hx hb hml hown hts hE (c_X11_habit l G cy sk H.size x lv kp tr_ sh er re fi vo (fun _ => 0) lv st la le ta wa wk (xs 1) (xs 2) (xs 3) (xs 4)) kV_X11_habit m_649 rfl rfl ⟨(Nat.le_of_ble_eq_true rfl), (Nat.le_of_ble_eq_true rfl)⟩ hP hD hS hA 0 rfl rfl rfl [0, 1, 2] [3, 4, 5] rfl rfl rfl rfl (by decide) rfl rfl hl.1 (Nat.le_of_ble_eq_true rfl) dL_law_606 ⟨(Nat.le_of_ble_eq_true rfl), (Nat.le_of_ble_eq_true rfl)⟩ (fun r_1 H locs hr_ haf hS => ?_)
  obtain ⟨-, -, hP, hD⟩ := haf
  have hP : va_P G classes [(mo, .inr (12, [.ref nw, .ref nk, .ref na, .int 0, .ref fd, .ref ea, .ref so, .int (-1), .ref nd, .int 0, .int 0, .int 0, .int 0, .int 0, .int 0, .ref cd, .ref nmd, .ref pl, .ref tl, .ref fr_, .ref rw_, .ref brw, .int 0, .int 0, .ref po, .ref trc, .int 0, .int 0, .int 0, .ref wi, .ref sz_, .ref nu, .ref ca])), (nw, .inl (cy 0, 3567, .inl nw0)), (fd, .inl (cy 0, 7, .inl (fun _ => 0)))] H := hP
  have hD : va_D A [(mo, .inr (12, [.ref nw, .ref nk, .ref na, .int 0, .ref fd, .ref ea, .ref so, .int (-1), .ref nd, .int 0, .int 0, .int 0, .int 0, .int 0, .int 0, .ref cd, .ref nmd, .ref pl, .ref tl, .ref fr_, .ref rw_, .ref brw, .int 0, .int 0, .ref po, .ref trc, .int 0, .int 0, .int 0, .ref wi, .ref sz_, .ref nu, .ref ca])), (nw, .inl (cy 0, 3567, .inl nw0)), (fd, .inl (cy 0, 7, .inl (fun _ => 0)))] := hD
  subst hr_
  refine lv_aload_n hx hb dL_law_609 rfl (lv_at hl 2 rfl) ?_
  refine lv_aload_n hx hb dL_law_610 rfl (lv_at hl 0 rfl) ?_
  refine lv_iload_n hx hb dL_law_611 rfl (lv_at hl 3 rfl) ?_
  refine lv_iconst (v := 1) hx hb dL_law_612 (by decide) ?_
  refine lv_iadd hx hb dL_law_613 ?_
  refine tp (v := 1) (by decide) ?_
  refine va_sld hx hb hX hbl hbA hS (vinL (by decide)) dL_law_614 ?_
  refine tp (v := (xs 1)) rfl ?_
  refine lv_aload_n hx hb dL_law_615 rfl (lv_at hl 0 rfl) ?_
  refine lv_iload_n hx hb dL_law_616 rfl (lv_at hl 3 rfl) ?_
  refine lv_iconst (v := 2) hx hb dL_law_617 (by decide) ?_
  refine lv_iadd hx hb dL_law_618 ?_
  refine tp (v := 2) (by decide) ?_
  refine va_sld hx hb hX hbl hbA hS (vinL (by decide)) dL_law_619 ?_
  refine tp (v := (xs 2)) rfl ?_
  refine lv_aload_n hx hb dL_law_620 rfl (lv_at hl 0 rfl) ?_
  refine lv_iload_n hx hb dL_law_621 rfl (lv_at hl 3 rfl) ?_
  refine lv_iconst (v := 3) hx hb dL_law_622 (by decide) ?_
  refine lv_iadd hx hb dL_law_623 ?_
  refine tp (v := 3) (by decide) ?_
  refine va_sld hx hb hX hbl hbA hS (vinL (by decide)) dL_law_624 ?_
  refine tp (v := (xs 3)) rfl ?_
  refine lv_aload_n hx hb dL_law_625 rfl (lv_at hl 0 rfl) ?_
  refine lv_iload_n hx hb dL_law_626 rfl (lv_at hl 3 rfl) ?_
  refine lv_iconst (v := 4) hx hb dL_law_627 (by decide) ?_
  refine lv_iadd hx hb dL_law_628 ?_
  refine tp (v := 4) (by decide) ?_
  refine va_sld hx hb hX hbl hbA hS (vinL (by decide)) dL_law_629 ?_
  refine tp (v := (xs 4)) rfl ?_
  refine wV (B := (fun _ => True)) (wr := []) (rest := [.int (-1000001)]) hx hb hml hown hts hE (c_X12_habit l G cy sk H.size mo nw nk na fd ea so nd cd nmd pl tl fr_ rw_ brw po trc wi sz_ nu ca (fun _ => 0) (xs 1) (xs 2) (xs 3) (xs 4)) kV_X12_habit m_1538 rfl rfl ⟨(Nat.le_of_ble_eq_true rfl), (Nat.le_of_ble_eq_true rfl)⟩ hP hD hS hA 0 rfl rfl rfl [0, 1, 2] [] rfl rfl rfl rfl (by decide) rfl rfl hl.1 (Nat.le_of_ble_eq_true rfl) dL_law_630 ⟨(Nat.le_of_ble_eq_true rfl), (Nat.le_of_ble_eq_true rfl)⟩ (fun r_2 H locs hr_ haf hS => ?_)
  obtain ⟨-, -, hP, hD⟩ := haf
  have hP : va_P G classes [] H := hP
  have hD : va_D A [] := hD
  subst hr_
  refine lv_icmp_eq (tgt := 1731) hx hb dL_law_633 (by decide) (fun _ => ?_) (fun h9 => absurd h9 (by decide))
  exact hend H locs ls hS (lv_sub hl [0, 3] rfl)
set_option maxHeartbeats 4000000 in
set_option maxRecDepth 100000 in
theorem law_case_12 {p : Program} {e : Env} {s : State} {m : MethodId} {below : List Frame} {meth : Method} {c : Code} {Q : State → Prop} (l : Launch) {b : Nat} {xs : Nat → Int32} {A : Nat → Prop} {G : va_G} {cy : Nat → ClassId} {sk : Nat → Nat} {H : Heap} {locs : List Loc} {ls : Array Slot} (x : Nat) (lv : Nat) (kp : Nat) (tr_ : Nat) (sh : Nat) (er : Nat) (re : Nat) (fi : Nat) (vo : Nat) (st : Nat) (la : Nat) (le : Nat) (ta : Nat) (wa : Nat) (wk : Nat) (mo : Nat) (nw : Nat) (nk : Nat) (na : Nat) (fd : Nat) (ea : Nat) (so : Nat) (nd : Nat) (cd : Nat) (nmd : Nat) (pl : Nat) (tl : Nat) (fr_ : Nat) (rw_ : Nat) (brw : Nat) (po : Nat) (trc : Nat) (wi : Nat) (sz_ : Nat) (nu : Nat) (ca : Nat)  : p.tables.exec = Jvm.exec → c.code = code → c.maxLocals = 4 → s.vm.findClass RL = some m.cls → (∀ w ∈ BASE, w.before #[Value.ref b] s = true) → EN G cy sk s → va_X b 6 xs s s.heap → b < s.heap.size → ¬ A b → (∀ q, s.heap.size ≤ q → A q) → va_P G classes [(x, .inr (11, [.ref lv, .ref kp, .ref tr_, .ref sh, .ref er, .ref re, .ref fi, .ref vo, .int 0])), (er, .inl (cy 0, 7, .inl (fun _ => 0))), (lv, .inr (10, [.ref st, .ref la, .ref le, .ref ta, .ref wa, .ref wk, .int 0, .int 0])), (mo, .inr (12, [.ref nw, .ref nk, .ref na, .int 0, .ref fd, .ref ea, .ref so, .int (-1), .ref nd, .int 0, .int 0, .int 0, .int 0, .int 0, .int 0, .ref cd, .ref nmd, .ref pl, .ref tl, .ref fr_, .ref rw_, .ref brw, .int 0, .int 0, .ref po, .ref trc, .int 0, .int 0, .int 0, .ref wi, .ref sz_, .ref nu, .ref ca])), (nw, .inl (cy 0, 3567, .inl nw0)), (fd, .inl (cy 0, 7, .inl (fun _ => 0)))] H → va_D A [(x, .inr (11, [.ref lv, .ref kp, .ref tr_, .ref sh, .ref er, .ref re, .ref fi, .ref vo, .int 0])), (er, .inl (cy 0, 7, .inl (fun _ => 0))), (lv, .inr (10, [.ref st, .ref la, .ref le, .ref ta, .ref wa, .ref wk, .int 0, .int 0])), (mo, .inr (12, [.ref nw, .ref nk, .ref na, .int 0, .ref fd, .ref ea, .ref so, .int (-1), .ref nd, .int 0, .int 0, .int 0, .int 0, .int 0, .int 0, .ref cd, .ref nmd, .ref pl, .ref tl, .ref fr_, .ref rw_, .ref brw, .int 0, .int 0, .ref po, .ref trc, .int 0, .int 0, .int 0, .ref wi, .ref sz_, .ref nu, .ref ca])), (nw, .inl (cy 0, 3567, .inl nw0)), (fd, .inl (cy 0, 7, .inl (fun _ => 0)))] → va_S A s.heap H locs → lv_has ls 4 [(0, .ref b), (1, .ref x), (2, .ref mo), (3, .int 0)] → (∀ (H : Heap) (locs : List Loc) (ls : Array Slot), va_S A s.heap H locs → lv_has ls 4 [(0, .ref b), (3, .int 0)] → W p l e room_1 s m #[Value.ref b] below meth c H locs 222 26621 Q (F0 m 1731 ls [])) → W p l e room_1 s m #[Value.ref b] below meth c H locs 222 26621 Q (F0 m 638 ls []) := by
  intro hx hb hml hown hts hE hX hbl hbA hA hP hD hS hl hend
  have hP : va_P G classes [(x, .inr (11, [.ref lv, .ref kp, .ref tr_, .ref sh, .ref er, .ref re, .ref fi, .ref vo, .int 0])), (er, .inl (cy 0, 7, .inl (fun _ => 0))), (lv, .inr (10, [.ref st, .ref la, .ref le, .ref ta, .ref wa, .ref wk, .int 0, .int 0])), (mo, .inr (12, [.ref nw, .ref nk, .ref na, .int 0, .ref fd, .ref ea, .ref so, .int (-1), .ref nd, .int 0, .int 0, .int 0, .int 0, .int 0, .int 0, .ref cd, .ref nmd, .ref pl, .ref tl, .ref fr_, .ref rw_, .ref brw, .int 0, .int 0, .ref po, .ref trc, .int 0, .int 0, .int 0, .ref wi, .ref sz_, .ref nu, .ref ca])), (nw, .inl (cy 0, 3567, .inl nw0)), (fd, .inl (cy 0, 7, .inl (fun _ => 0)))] H := hP
  refine lv_aload_n hx hb dL_law_638 rfl (lv_at hl 1 rfl) ?_
  refine lv_aload_n hx hb dL_law_639 rfl (lv_at hl 0 rfl) ?_
  refine lv_iload_n hx hb dL_law_640 rfl (lv_at hl 3 rfl) ?_
  refine lv_iconst (v := 1) hx hb dL_law_641 (by decide) ?_
  refine lv_iadd hx hb dL_law_642 ?_
  refine tp (v := 1) (by decide) ?_
  refine va_sld hx hb hX hbl hbA hS (vinL (by decide)) dL_law_643 ?_
  refine tp (v := (xs 1)) rfl ?_
  refine lv_aload_n hx hb dL_law_644 rfl (lv_at hl 0 rfl) ?_
  refine lv_iload_n hx hb dL_law_645 rfl (lv_at hl 3 rfl) ?_
  refine lv_iconst (v := 2) hx hb dL_law_646 (by decide) ?_
  refine lv_iadd hx hb dL_law_647 ?_
  refine tp (v := 2) (by decide) ?_
  refine va_sld hx hb hX hbl hbA hS (vinL (by decide)) dL_law_648 ?_
  refine tp (v := (xs 2)) rfl ?_
  refine wV (B := (fun _ => True)) (wr := [(mo, .inr (12, [.ref nw, .ref nk, .ref na, .int 0, .ref fd, .ref ea, .ref so, .int (-1), .ref nd, .int 0, .int 0, .int 0, .int 0, .int 0, .int 0, .ref cd, .ref nmd, .ref pl, .ref tl, .ref fr_, .ref rw_, .ref brw, .int 0, .int 0, .ref po, .ref trc, .int 0, .int 0, .int 0, .ref wi, .ref sz_, .ref nu, .ref ca])), (nw, .inl (cy 0, 3567, .inl nw0)), (fd, .inl (cy 0, 7, .inl (fun _ => 0)))]) (rest := []) hx hb hml hown hts hE (c_X11_face l G cy sk H.size x lv kp tr_ sh er re fi vo (fun _ => 0) lv st la le ta wa wk (xs 1) (xs 2)) kV_X11_face m_657 rfl rfl ⟨(Nat.le_of_ble_eq_true rfl), (Nat.le_of_ble_eq_true rfl)⟩ hP hD hS hA 0 rfl rfl rfl [0, 1, 2] [3, 4, 5] rfl rfl rfl rfl (by decide) rfl rfl hl.1 (Nat.le_of_ble_eq_true rfl) dL_law_649 ⟨(Nat.le_of_ble_eq_true rfl), (Nat.le_of_ble_eq_true rfl)⟩ (fun r_1 H locs hr_ haf hS => ?_)
  obtain ⟨-, -, hP, hD⟩ := haf
  have hP : va_P G classes [(mo, .inr (12, [.ref nw, .ref nk, .ref na, .int 0, .ref fd, .ref ea, .ref so, .int (-1), .ref nd, .int 0, .int 0, .int 0, .int 0, .int 0, .int 0, .ref cd, .ref nmd, .ref pl, .ref tl, .ref fr_, .ref rw_, .ref brw, .int 0, .int 0, .ref po, .ref trc, .int 0, .int 0, .int 0, .ref wi, .ref sz_, .ref nu, .ref ca])), (nw, .inl (cy 0, 3567, .inl nw0)), (fd, .inl (cy 0, 7, .inl (fun _ => 0)))] H := hP
  have hD : va_D A [(mo, .inr (12, [.ref nw, .ref nk, .ref na, .int 0, .ref fd, .ref ea, .ref so, .int (-1), .ref nd, .int 0, .int 0, .int 0, .int 0, .int 0, .int 0, .ref cd, .ref nmd, .ref pl, .ref tl, .ref fr_, .ref rw_, .ref brw, .int 0, .int 0, .ref po, .ref trc, .int 0, .int 0, .int 0, .ref wi, .ref sz_, .ref nu, .ref ca])), (nw, .inl (cy 0, 3567, .inl nw0)), (fd, .inl (cy 0, 7, .inl (fun _ => 0)))] := hD
  subst hr_
  refine lv_aload_n hx hb dL_law_652 rfl (lv_at hl 2 rfl) ?_
  refine lv_aload_n hx hb dL_law_653 rfl (lv_at hl 0 rfl) ?_
  refine lv_iload_n hx hb dL_law_654 rfl (lv_at hl 3 rfl) ?_
  refine lv_iconst (v := 1) hx hb dL_law_655 (by decide) ?_
  refine lv_iadd hx hb dL_law_656 ?_
  refine tp (v := 1) (by decide) ?_
  refine va_sld hx hb hX hbl hbA hS (vinL (by decide)) dL_law_657 ?_
  refine tp (v := (xs 1)) rfl ?_
  refine lv_aload_n hx hb dL_law_658 rfl (lv_at hl 0 rfl) ?_
  refine lv_iload_n hx hb dL_law_659 rfl (lv_at hl 3 rfl) ?_
  refine lv_iconst (v := 2) hx hb dL_law_660 (by decide) ?_
  refine lv_iadd hx hb dL_law_661 ?_
  refine tp (v := 2) (by decide) ?_
  refine va_sld hx hb hX hbl hbA hS (vinL (by decide)) dL_law_662 ?_
  refine tp (v := (xs 2)) rfl ?_
  refine wV (B := (fun _ => True)) (wr := []) (rest := [.int (-1000001)]) hx hb hml hown hts hE (c_X12_face l G cy sk H.size mo nw nk na fd ea so nd cd nmd pl tl fr_ rw_ brw po trc wi sz_ nu ca (fun _ => 0) (xs 1) (xs 2)) kV_X12_face m_1542 rfl rfl ⟨(Nat.le_of_ble_eq_true rfl), (Nat.le_of_ble_eq_true rfl)⟩ hP hD hS hA 0 rfl rfl rfl [0, 1, 2] [] rfl rfl rfl rfl (by decide) rfl rfl hl.1 (Nat.le_of_ble_eq_true rfl) dL_law_663 ⟨(Nat.le_of_ble_eq_true rfl), (Nat.le_of_ble_eq_true rfl)⟩ (fun r_2 H locs hr_ haf hS => ?_)
  obtain ⟨-, -, hP, hD⟩ := haf
  have hP : va_P G classes [] H := hP
  have hD : va_D A [] := hD
  subst hr_
  refine lv_icmp_eq (tgt := 1731) hx hb dL_law_666 (by decide) (fun _ => ?_) (fun h9 => absurd h9 (by decide))
  exact hend H locs ls hS (lv_sub hl [0, 3] rfl)
set_option maxHeartbeats 4000000 in
set_option maxRecDepth 100000 in
theorem law_case_13 {p : Program} {e : Env} {s : State} {m : MethodId} {below : List Frame} {meth : Method} {c : Code} {Q : State → Prop} (l : Launch) {b : Nat} {xs : Nat → Int32} {A : Nat → Prop} {G : va_G} {cy : Nat → ClassId} {sk : Nat → Nat} {H : Heap} {locs : List Loc} {ls : Array Slot} (x : Nat) (lv : Nat) (kp : Nat) (tr_ : Nat) (sh : Nat) (er : Nat) (re : Nat) (fi : Nat) (vo : Nat) (st : Nat) (la : Nat) (le : Nat) (ta : Nat) (wa : Nat) (wk : Nat) (mo : Nat) (nw : Nat) (nk : Nat) (na : Nat) (fd : Nat) (ea : Nat) (so : Nat) (nd : Nat) (cd : Nat) (nmd : Nat) (pl : Nat) (tl : Nat) (fr_ : Nat) (rw_ : Nat) (brw : Nat) (po : Nat) (trc : Nat) (wi : Nat) (sz_ : Nat) (nu : Nat) (ca : Nat)  : p.tables.exec = Jvm.exec → c.code = code → c.maxLocals = 4 → s.vm.findClass RL = some m.cls → (∀ w ∈ BASE, w.before #[Value.ref b] s = true) → EN G cy sk s → va_X b 6 xs s s.heap → b < s.heap.size → ¬ A b → (∀ q, s.heap.size ≤ q → A q) → va_P G classes [(x, .inr (11, [.ref lv, .ref kp, .ref tr_, .ref sh, .ref er, .ref re, .ref fi, .ref vo, .int 0])), (er, .inl (cy 0, 7, .inl (fun _ => 0))), (lv, .inr (10, [.ref st, .ref la, .ref le, .ref ta, .ref wa, .ref wk, .int 0, .int 0])), (mo, .inr (12, [.ref nw, .ref nk, .ref na, .int 0, .ref fd, .ref ea, .ref so, .int (-1), .ref nd, .int 0, .int 0, .int 0, .int 0, .int 0, .int 0, .ref cd, .ref nmd, .ref pl, .ref tl, .ref fr_, .ref rw_, .ref brw, .int 0, .int 0, .ref po, .ref trc, .int 0, .int 0, .int 0, .ref wi, .ref sz_, .ref nu, .ref ca])), (nw, .inl (cy 0, 3567, .inl nw0)), (fd, .inl (cy 0, 7, .inl (fun _ => 0)))] H → va_D A [(x, .inr (11, [.ref lv, .ref kp, .ref tr_, .ref sh, .ref er, .ref re, .ref fi, .ref vo, .int 0])), (er, .inl (cy 0, 7, .inl (fun _ => 0))), (lv, .inr (10, [.ref st, .ref la, .ref le, .ref ta, .ref wa, .ref wk, .int 0, .int 0])), (mo, .inr (12, [.ref nw, .ref nk, .ref na, .int 0, .ref fd, .ref ea, .ref so, .int (-1), .ref nd, .int 0, .int 0, .int 0, .int 0, .int 0, .int 0, .ref cd, .ref nmd, .ref pl, .ref tl, .ref fr_, .ref rw_, .ref brw, .int 0, .int 0, .ref po, .ref trc, .int 0, .int 0, .int 0, .ref wi, .ref sz_, .ref nu, .ref ca])), (nw, .inl (cy 0, 3567, .inl nw0)), (fd, .inl (cy 0, 7, .inl (fun _ => 0)))] → va_S A s.heap H locs → lv_has ls 4 [(0, .ref b), (1, .ref x), (2, .ref mo), (3, .int 0)] → (∀ (H : Heap) (locs : List Loc) (ls : Array Slot), va_S A s.heap H locs → lv_has ls 4 [(0, .ref b), (3, .int 0)] → W p l e room_1 s m #[Value.ref b] below meth c H locs 222 26621 Q (F0 m 1731 ls [])) → W p l e room_1 s m #[Value.ref b] below meth c H locs 222 26621 Q (F0 m 671 ls []) := by
  intro hx hb hml hown hts hE hX hbl hbA hA hP hD hS hl hend
  have hP : va_P G classes [(x, .inr (11, [.ref lv, .ref kp, .ref tr_, .ref sh, .ref er, .ref re, .ref fi, .ref vo, .int 0])), (er, .inl (cy 0, 7, .inl (fun _ => 0))), (lv, .inr (10, [.ref st, .ref la, .ref le, .ref ta, .ref wa, .ref wk, .int 0, .int 0])), (mo, .inr (12, [.ref nw, .ref nk, .ref na, .int 0, .ref fd, .ref ea, .ref so, .int (-1), .ref nd, .int 0, .int 0, .int 0, .int 0, .int 0, .int 0, .ref cd, .ref nmd, .ref pl, .ref tl, .ref fr_, .ref rw_, .ref brw, .int 0, .int 0, .ref po, .ref trc, .int 0, .int 0, .int 0, .ref wi, .ref sz_, .ref nu, .ref ca])), (nw, .inl (cy 0, 3567, .inl nw0)), (fd, .inl (cy 0, 7, .inl (fun _ => 0)))] H := hP
  refine lv_aload_n hx hb dL_law_671 rfl (lv_at hl 1 rfl) ?_
  refine lv_aload_n hx hb dL_law_672 rfl (lv_at hl 0 rfl) ?_
  refine lv_iload_n hx hb dL_law_673 rfl (lv_at hl 3 rfl) ?_
  refine lv_iconst (v := 1) hx hb dL_law_674 (by decide) ?_
  refine lv_iadd hx hb dL_law_675 ?_
  refine tp (v := 1) (by decide) ?_
  refine va_sld hx hb hX hbl hbA hS (vinL (by decide)) dL_law_676 ?_
  refine tp (v := (xs 1)) rfl ?_
  refine lv_aload_n hx hb dL_law_677 rfl (lv_at hl 0 rfl) ?_
  refine lv_iload_n hx hb dL_law_678 rfl (lv_at hl 3 rfl) ?_
  refine lv_iconst (v := 2) hx hb dL_law_679 (by decide) ?_
  refine lv_iadd hx hb dL_law_680 ?_
  refine tp (v := 2) (by decide) ?_
  refine va_sld hx hb hX hbl hbA hS (vinL (by decide)) dL_law_681 ?_
  refine tp (v := (xs 2)) rfl ?_
  refine lv_if_eq (tgt := 689) hx hb dL_law_682 (by decide) (fun c_1 => ?_) (fun c_1 => ?_)
  · refine lv_iconst (v := 0) hx hb dL_law_689 (by decide) ?_
    refine wV (B := (fun _ => True)) (wr := [(mo, .inr (12, [.ref nw, .ref nk, .ref na, .int 0, .ref fd, .ref ea, .ref so, .int (-1), .ref nd, .int 0, .int 0, .int 0, .int 0, .int 0, .int 0, .ref cd, .ref nmd, .ref pl, .ref tl, .ref fr_, .ref rw_, .ref brw, .int 0, .int 0, .ref po, .ref trc, .int 0, .int 0, .int 0, .ref wi, .ref sz_, .ref nu, .ref ca])), (nw, .inl (cy 0, 3567, .inl nw0)), (fd, .inl (cy 0, 7, .inl (fun _ => 0)))]) (rest := []) hx hb hml hown hts hE (c_X11_goes l G cy sk H.size x lv kp tr_ sh er re fi vo (fun _ => 0) lv st la le ta wa wk (xs 1) 0) kV_X11_goes m_661 rfl rfl ⟨(Nat.le_of_ble_eq_true rfl), (Nat.le_of_ble_eq_true rfl)⟩ hP hD hS hA 0 rfl rfl rfl [0, 1, 2] [3, 4, 5] rfl rfl rfl rfl (by decide) rfl rfl hl.1 (Nat.le_of_ble_eq_true rfl) dL_law_690 ⟨(Nat.le_of_ble_eq_true rfl), (Nat.le_of_ble_eq_true rfl)⟩ (fun r_2 H locs hr_ haf hS => ?_)
    obtain ⟨-, -, hP, hD⟩ := haf
    have hP : va_P G classes [(mo, .inr (12, [.ref nw, .ref nk, .ref na, .int 0, .ref fd, .ref ea, .ref so, .int (-1), .ref nd, .int 0, .int 0, .int 0, .int 0, .int 0, .int 0, .ref cd, .ref nmd, .ref pl, .ref tl, .ref fr_, .ref rw_, .ref brw, .int 0, .int 0, .ref po, .ref trc, .int 0, .int 0, .int 0, .ref wi, .ref sz_, .ref nu, .ref ca])), (nw, .inl (cy 0, 3567, .inl nw0)), (fd, .inl (cy 0, 7, .inl (fun _ => 0)))] H := hP
    have hD : va_D A [(mo, .inr (12, [.ref nw, .ref nk, .ref na, .int 0, .ref fd, .ref ea, .ref so, .int (-1), .ref nd, .int 0, .int 0, .int 0, .int 0, .int 0, .int 0, .ref cd, .ref nmd, .ref pl, .ref tl, .ref fr_, .ref rw_, .ref brw, .int 0, .int 0, .ref po, .ref trc, .int 0, .int 0, .int 0, .ref wi, .ref sz_, .ref nu, .ref ca])), (nw, .inl (cy 0, 3567, .inl nw0)), (fd, .inl (cy 0, 7, .inl (fun _ => 0)))] := hD
    subst hr_
    refine lv_aload_n hx hb dL_law_693 rfl (lv_at hl 2 rfl) ?_
    refine lv_aload_n hx hb dL_law_694 rfl (lv_at hl 0 rfl) ?_
    refine lv_iload_n hx hb dL_law_695 rfl (lv_at hl 3 rfl) ?_
    refine lv_iconst (v := 1) hx hb dL_law_696 (by decide) ?_
    refine lv_iadd hx hb dL_law_697 ?_
    refine tp (v := 1) (by decide) ?_
    refine va_sld hx hb hX hbl hbA hS (vinL (by decide)) dL_law_698 ?_
    refine tp (v := (xs 1)) rfl ?_
    refine lv_aload_n hx hb dL_law_699 rfl (lv_at hl 0 rfl) ?_
    refine lv_iload_n hx hb dL_law_700 rfl (lv_at hl 3 rfl) ?_
    refine lv_iconst (v := 2) hx hb dL_law_701 (by decide) ?_
    refine lv_iadd hx hb dL_law_702 ?_
    refine tp (v := 2) (by decide) ?_
    refine va_sld hx hb hX hbl hbA hS (vinL (by decide)) dL_law_703 ?_
    refine tp (v := (xs 2)) rfl ?_
    refine lv_if_eq (tgt := 711) hx hb dL_law_704 (by decide) (fun _ => ?_) (fun h9 => absurd c_1 h9)
    refine lv_iconst (v := 0) hx hb dL_law_711 (by decide) ?_
    refine wV (B := (fun _ => True)) (wr := []) (rest := [.int (-1000001)]) hx hb hml hown hts hE (c_X12_goes l G cy sk H.size mo nw nk na fd ea so nd cd nmd pl tl fr_ rw_ brw po trc wi sz_ nu ca (fun _ => 0) (xs 1) 0) kV_X12_goes m_1546 rfl rfl ⟨(Nat.le_of_ble_eq_true rfl), (Nat.le_of_ble_eq_true rfl)⟩ hP hD hS hA 0 rfl rfl rfl [0, 1, 2] [] rfl rfl rfl rfl (by decide) rfl rfl hl.1 (Nat.le_of_ble_eq_true rfl) dL_law_712 ⟨(Nat.le_of_ble_eq_true rfl), (Nat.le_of_ble_eq_true rfl)⟩ (fun r_3 H locs hr_ haf hS => ?_)
    obtain ⟨-, -, hP, hD⟩ := haf
    have hP : va_P G classes [] H := hP
    have hD : va_D A [] := hD
    subst hr_
    refine lv_icmp_eq (tgt := 1731) hx hb dL_law_715 (by decide) (fun _ => ?_) (fun h9 => absurd h9 (by decide))
    exact hend H locs ls hS (lv_sub hl [0, 3] rfl)
  · refine lv_iconst (v := 1) hx hb dL_law_685 (by decide) ?_
    refine lv_goto (tgt := 690) hx hb dL_law_686 (by decide) ?_
    refine wV (B := (fun _ => True)) (wr := [(mo, .inr (12, [.ref nw, .ref nk, .ref na, .int 0, .ref fd, .ref ea, .ref so, .int (-1), .ref nd, .int 0, .int 0, .int 0, .int 0, .int 0, .int 0, .ref cd, .ref nmd, .ref pl, .ref tl, .ref fr_, .ref rw_, .ref brw, .int 0, .int 0, .ref po, .ref trc, .int 0, .int 0, .int 0, .ref wi, .ref sz_, .ref nu, .ref ca])), (nw, .inl (cy 0, 3567, .inl nw0)), (fd, .inl (cy 0, 7, .inl (fun _ => 0)))]) (rest := []) hx hb hml hown hts hE (c_X11_goes l G cy sk H.size x lv kp tr_ sh er re fi vo (fun _ => 0) lv st la le ta wa wk (xs 1) 1) kV_X11_goes m_661 rfl rfl ⟨(Nat.le_of_ble_eq_true rfl), (Nat.le_of_ble_eq_true rfl)⟩ hP hD hS hA 0 rfl rfl rfl [0, 1, 2] [3, 4, 5] rfl rfl rfl rfl (by decide) rfl rfl hl.1 (Nat.le_of_ble_eq_true rfl) dL_law_690 ⟨(Nat.le_of_ble_eq_true rfl), (Nat.le_of_ble_eq_true rfl)⟩ (fun r_4 H locs hr_ haf hS => ?_)
    obtain ⟨-, -, hP, hD⟩ := haf
    have hP : va_P G classes [(mo, .inr (12, [.ref nw, .ref nk, .ref na, .int 0, .ref fd, .ref ea, .ref so, .int (-1), .ref nd, .int 0, .int 0, .int 0, .int 0, .int 0, .int 0, .ref cd, .ref nmd, .ref pl, .ref tl, .ref fr_, .ref rw_, .ref brw, .int 0, .int 0, .ref po, .ref trc, .int 0, .int 0, .int 0, .ref wi, .ref sz_, .ref nu, .ref ca])), (nw, .inl (cy 0, 3567, .inl nw0)), (fd, .inl (cy 0, 7, .inl (fun _ => 0)))] H := hP
    have hD : va_D A [(mo, .inr (12, [.ref nw, .ref nk, .ref na, .int 0, .ref fd, .ref ea, .ref so, .int (-1), .ref nd, .int 0, .int 0, .int 0, .int 0, .int 0, .int 0, .ref cd, .ref nmd, .ref pl, .ref tl, .ref fr_, .ref rw_, .ref brw, .int 0, .int 0, .ref po, .ref trc, .int 0, .int 0, .int 0, .ref wi, .ref sz_, .ref nu, .ref ca])), (nw, .inl (cy 0, 3567, .inl nw0)), (fd, .inl (cy 0, 7, .inl (fun _ => 0)))] := hD
    subst hr_
    refine lv_aload_n hx hb dL_law_693 rfl (lv_at hl 2 rfl) ?_
    refine lv_aload_n hx hb dL_law_694 rfl (lv_at hl 0 rfl) ?_
    refine lv_iload_n hx hb dL_law_695 rfl (lv_at hl 3 rfl) ?_
    refine lv_iconst (v := 1) hx hb dL_law_696 (by decide) ?_
    refine lv_iadd hx hb dL_law_697 ?_
    refine tp (v := 1) (by decide) ?_
    refine va_sld hx hb hX hbl hbA hS (vinL (by decide)) dL_law_698 ?_
    refine tp (v := (xs 1)) rfl ?_
    refine lv_aload_n hx hb dL_law_699 rfl (lv_at hl 0 rfl) ?_
    refine lv_iload_n hx hb dL_law_700 rfl (lv_at hl 3 rfl) ?_
    refine lv_iconst (v := 2) hx hb dL_law_701 (by decide) ?_
    refine lv_iadd hx hb dL_law_702 ?_
    refine tp (v := 2) (by decide) ?_
    refine va_sld hx hb hX hbl hbA hS (vinL (by decide)) dL_law_703 ?_
    refine tp (v := (xs 2)) rfl ?_
    refine lv_if_eq (tgt := 711) hx hb dL_law_704 (by decide) (fun h9 => absurd h9 c_1) (fun _ => ?_)
    refine lv_iconst (v := 1) hx hb dL_law_707 (by decide) ?_
    refine lv_goto (tgt := 712) hx hb dL_law_708 (by decide) ?_
    refine wV (B := (fun _ => True)) (wr := []) (rest := [.int (-1000001)]) hx hb hml hown hts hE (c_X12_goes l G cy sk H.size mo nw nk na fd ea so nd cd nmd pl tl fr_ rw_ brw po trc wi sz_ nu ca (fun _ => 0) (xs 1) 1) kV_X12_goes m_1546 rfl rfl ⟨(Nat.le_of_ble_eq_true rfl), (Nat.le_of_ble_eq_true rfl)⟩ hP hD hS hA 0 rfl rfl rfl [0, 1, 2] [] rfl rfl rfl rfl (by decide) rfl rfl hl.1 (Nat.le_of_ble_eq_true rfl) dL_law_712 ⟨(Nat.le_of_ble_eq_true rfl), (Nat.le_of_ble_eq_true rfl)⟩ (fun r_5 H locs hr_ haf hS => ?_)
    obtain ⟨-, -, hP, hD⟩ := haf
    have hP : va_P G classes [] H := hP
    have hD : va_D A [] := hD
    subst hr_
    refine lv_icmp_eq (tgt := 1731) hx hb dL_law_715 (by decide) (fun _ => ?_) (fun h9 => absurd h9 (by decide))
    exact hend H locs ls hS (lv_sub hl [0, 3] rfl)
