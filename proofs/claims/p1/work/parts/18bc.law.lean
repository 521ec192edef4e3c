set_option maxHeartbeats 4000000 in
set_option maxRecDepth 100000 in
theorem law_case_28 {p : Program} {e : Env} {s : State} {m : MethodId} {below : List Frame} {meth : Method} {c : Code} {Q : State → Prop} (l : Launch) {b : Nat} {xs : Nat → Int32} {A : Nat → Prop} {G : va_G} {cy : Nat → ClassId} {sk : Nat → Nat} {H : Heap} {locs : List Loc} {ls : Array Slot} (x : Nat) (lv : Nat) (kp : Nat) (tr_ : Nat) (sh : Nat) (er : Nat) (re : Nat) (fi : Nat) (vo : Nat) (st : Nat) (la : Nat) (le : Nat) (te : Nat) (ne : Nat) (mi : Nat) (tr : Nat) (be : Nat) (rta7 : Nat) (rba7 : Nat) (ta : Nat) (wa : Nat) (wk : Nat) (mo : Nat) (nw : Nat) (nk : Nat) (na : Nat) (fd : Nat) (ea : Nat) (so : Nat) (nd : Nat) (cd : Nat) (nmd : Nat) (pl : Nat) (tl : Nat) (fr_ : Nat) (rw_ : Nat) (brw : Nat) (po : Nat) (trc : Nat) (wi : Nat) (sz_ : Nat) (nu : Nat) (ca : Nat)  : p.tables.exec = Jvm.exec → c.code = code → c.maxLocals = 4 → s.vm.findClass RL = some m.cls → (∀ w ∈ BASE, w.before #[Value.ref b] s = true) → EN G cy sk s → va_X b 6 xs s s.heap → b < s.heap.size → ¬ A b → (∀ q, s.heap.size ≤ q → A q) → va_P G classes [(x, .inr (11, [.ref lv, .ref kp, .ref tr_, .ref sh, .ref er, .ref re, .ref fi, .ref vo, .int 0])), (er, .inl (cy 0, 7, .inl (fun _ => 0))), (lv, .inr (10, [.ref st, .ref la, .ref le, .ref ta, .ref wa, .ref wk, .int 0, .int 0])), (le, .inr (3, [.ref te, .ref ne, .ref mi, .int 0, .ref tr, .ref be, .int 0, .int 0, .int 0])), (te, .inl (cy 0, 7, .inl (fun _ => 0))), (ne, .inl (cy 0, 7, .inl (fun _ => 0))), (mi, .inl (cy 0, 7, .inl (fun _ => 0))), (tr, .inr (5, [.ref rta7, .int 0])), (rta7, .inl (cy 0, 7, .inl (fun _ => 0))), (be, .inr (5, [.ref rba7, .int 0])), (rba7, .inl (cy 0, 7, .inl (fun _ => 0))), (mo, .inr (12, [.ref nw, .ref nk, .ref na, .int 0, .ref fd, .ref ea, .ref so, .int (-1), .ref nd, .int 0, .int 0, .int 0, .int 0, .int 0, .int 0, .ref cd, .ref nmd, .ref pl, .ref tl, .ref fr_, .ref rw_, .ref brw, .int 0, .int 0, .ref po, .ref trc, .int 0, .int 0, .int 0, .ref wi, .ref sz_, .ref nu, .ref ca])), (nw, .inl (cy 0, 3567, .inl nw0)), (fd, .inl (cy 0, 7, .inl (fun _ => 0)))] H → va_D A [(x, .inr (11, [.ref lv, .ref kp, .ref tr_, .ref sh, .ref er, .ref re, .ref fi, .ref vo, .int 0])), (er, .inl (cy 0, 7, .inl (fun _ => 0))), (lv, .inr (10, [.ref st, .ref la, .ref le, .ref ta, .ref wa, .ref wk, .int 0, .int 0])), (le, .inr (3, [.ref te, .ref ne, .ref mi, .int 0, .ref tr, .ref be, .int 0, .int 0, .int 0])), (te, .inl (cy 0, 7, .inl (fun _ => 0))), (ne, .inl (cy 0, 7, .inl (fun _ => 0))), (mi, .inl (cy 0, 7, .inl (fun _ => 0))), (tr, .inr (5, [.ref rta7, .int 0])), (rta7, .inl (cy 0, 7, .inl (fun _ => 0))), (be, .inr (5, [.ref rba7, .int 0])), (rba7, .inl (cy 0, 7, .inl (fun _ => 0))), (mo, .inr (12, [.ref nw, .ref nk, .ref na, .int 0, .ref fd, .ref ea, .ref so, .int (-1), .ref nd, .int 0, .int 0, .int 0, .int 0, .int 0, .int 0, .ref cd, .ref nmd, .ref pl, .ref tl, .ref fr_, .ref rw_, .ref brw, .int 0, .int 0, .ref po, .ref trc, .int 0, .int 0, .int 0, .ref wi, .ref sz_, .ref nu, .ref ca])), (nw, .inl (cy 0, 3567, .inl nw0)), (fd, .inl (cy 0, 7, .inl (fun _ => 0)))] → va_S A s.heap H locs → lv_has ls 4 [(0, .ref b), (1, .ref x), (2, .ref mo), (3, .int 0)] → (∀ (H : Heap) (locs : List Loc) (ls : Array Slot), va_S A s.heap H locs → lv_has ls 4 [(0, .ref b), (3, .int 0)] → W p l e room_1 s m #[Value.ref b] below meth c H locs 222 26621 Q (F0 m 1731 ls [])) → W p l e room_1 s m #[Value.ref b] below meth c H locs 222 26621 Q (F0 m 1302 ls []) := by
  intro hx hb hml hown hts hE hX hbl hbA hA hP hD hS hl hend
  have hP : va_P G classes [(x, .inr (11, [.ref lv, .ref kp, .ref tr_, .ref sh, .ref er, .ref re, .ref fi, .ref vo, .int 0])), (er, .inl (cy 0, 7, .inl (fun _ => 0))), (lv, .inr (10, [.ref st, .ref la, .ref le, .ref ta, .ref wa, .ref wk, .int 0, .int 0])), (le, .inr (3, [.ref te, .ref ne, .ref mi, .int 0, .ref tr, .ref be, .int 0, .int 0, .int 0])), (te, .inl (cy 0, 7, .inl (fun _ => 0))), (ne, .inl (cy 0, 7, .inl (fun _ => 0))), (mi, .inl (cy 0, 7, .inl (fun _ => 0))), (tr, .inr (5, [.ref rta7, .int 0])), (rta7, .inl (cy 0, 7, .inl (fun _ => 0))), (be, .inr (5, [.ref rba7, .int 0])), (rba7, .inl (cy 0, 7, .inl (fun _ => 0))), (mo, .inr (12, [.ref nw, .ref nk, .ref na, .int 0, .ref fd, .ref ea, .ref so, .int (-1), .ref nd, .int 0, .int 0, .int 0, .int 0, .int 0, .int 0, .ref cd, .ref nmd, .ref pl, .ref tl, .ref fr_, .ref rw_, .ref brw, .int 0, .int 0, .ref po, .ref trc, .int 0, .int 0, .int 0, .ref wi, .ref sz_, .ref nu, .ref ca])), (nw, .inl (cy 0, 3567, .inl nw0)), (fd, .inl (cy 0, 7, .inl (fun _ => 0)))] H := hP
  refine lv_aload_n hx hb dL_law_1302 rfl (lv_at hl 1 rfl) ?_
  refine lv_aload_n hx hb dL_law_1303 rfl (lv_at hl 0 rfl) ?_
  refine lv_iload_n hx hb dL_law_1304 rfl (lv_at hl 3 rfl) ?_
  refine lv_iconst (v := 1) hx hb dL_law_1305 (by decide) ?_
  refine lv_iadd hx hb dL_law_1306 ?_
  refine tp (v := 1) (by decide) ?_
  refine va_sld hx hb hX hbl hbA hS (vinL (by decide)) dL_law_1307 ?_
  refine tp (v := (xs 1)) rfl ?_
  refine lv_aload_n hx hb dL_law_1308 rfl (lv_at hl 0 rfl) ?_
  refine lv_iload_n hx hb dL_law_1309 rfl (lv_at hl 3 rfl) ?_
  refine lv_iconst (v := 2) hx hb dL_law_1310 (by decide) ?_
  refine lv_iadd hx hb dL_law_1311 ?_
  refine tp (v := 2) (by decide) ?_
  refine va_sld hx hb hX hbl hbA hS (vinL (by decide)) dL_law_1312 ?_
  refine tp (v := (xs 2)) rfl ?_
  refine lv_aload_n hx hb dL_law_1313 rfl (lv_at hl 0 rfl) ?_
  refine lv_iload_n hx hb dL_law_1314 rfl (lv_at hl 3 rfl) ?_
  refine lv_iconst (v := 3) hx hb dL_law_1315 (by decide) ?_
  refine lv_iadd hx hb dL_law_1316 ?_
  refine tp (v := 3) (by decide) ?_
  refine va_sld hx hb hX hbl hbA hS (vinL (by decide)) dL_law_1317 ?_
  refine tp (v := (xs 3)) rfl ?_
  refine wV (B := (fun _ => True)) (wr := [(mo, .inr (12, [.ref nw, .ref nk, .ref na, .int 0, .ref fd, .ref ea, .ref so, .int (-1), .ref nd, .int 0, .int 0, .int 0, .int 0, .int 0, .int 0, .ref cd, .ref nmd, .ref pl, .ref tl, .ref fr_, .ref rw_, .ref brw, .int 0, .int 0, .ref po, .ref trc, .int 0, .int 0, .int 0, .ref wi, .ref sz_, .ref nu, .ref ca])), (nw, .inl (cy 0, 3567, .inl nw0)), (fd, .inl (cy 0, 7, .inl (fun _ => 0)))]) (rest := []) hx hb hml hown hts hE (c_X11_learn l G cy sk H.size x lv kp tr_ sh er re fi vo (fun _ => 0) lv st la le ta wa wk te ne mi tr be rta7 rba7 (xs 1) (xs 2) (xs 3)) kV_X11_learn m_1125 rfl rfl ⟨(Nat.le_of_ble_eq_true rfl), (Nat.le_of_ble_eq_true rfl)⟩ hP hD hS hA 0 rfl rfl rfl [0, 1, 2, 3, 4, 5, 6, 7, 8, 9, 10] [11, 12, 13] rfl rfl rfl rfl (by decide) rfl rfl hl.1 (Nat.le_of_ble_eq_true rfl) dL_law_1318 ⟨(Nat.le_of_ble_eq_true rfl), (Nat.le_of_ble_eq_true rfl)⟩ (fun r_1 H locs hr_ haf hS => ?_)
  obtain ⟨-, -, hP, hD⟩ := haf
  have hP : va_P G classes [(mo, .inr (12, [.ref nw, .ref nk, .ref na, .int 0, .ref fd, .ref ea, .ref so, .int (-1), .ref nd, .int 0, .int 0, .int 0, .int 0, .int 0, .int 0, .ref cd, .ref nmd, .ref pl, .ref tl, .ref fr_, .ref rw_, .ref brw, .int 0, .int 0, .ref po, .ref trc, .int 0, .int 0, .int 0, .ref wi, .ref sz_, .ref nu, .ref ca])), (nw, .inl (cy 0, 3567, .inl nw0)), (fd, .inl (cy 0, 7, .inl (fun _ => 0)))] H := hP
  have hD : va_D A [(mo, .inr (12, [.ref nw, .ref nk, .ref na, .int 0, .ref fd, .ref ea, .ref so, .int (-1), .ref nd, .int 0, .int 0, .int 0, .int 0, .int 0, .int 0, .ref cd, .ref nmd, .ref pl, .ref tl, .ref fr_, .ref rw_, .ref brw, .int 0, .int 0, .ref po, .ref trc, .int 0, .int 0, .int 0, .ref wi, .ref sz_, .ref nu, .ref ca])), (nw, .inl (cy 0, 3567, .inl nw0)), (fd, .inl (cy 0, 7, .inl (fun _ => 0)))] := hD
  subst hr_
  refine lv_aload_n hx hb dL_law_1321 rfl (lv_at hl 2 rfl) ?_
  refine lv_aload_n hx hb dL_law_1322 rfl (lv_at hl 0 rfl) ?_
  refine lv_iload_n hx hb dL_law_1323 rfl (lv_at hl 3 rfl) ?_
  refine lv_iconst (v := 1) hx hb dL_law_1324 (by decide) ?_
  refine lv_iadd hx hb dL_law_1325 ?_
  refine tp (v := 1) (by decide) ?_
  refine va_sld hx hb hX hbl hbA hS (vinL (by decide)) dL_law_1326 ?_
  refine tp (v := (xs 1)) rfl ?_
  refine lv_aload_n hx hb dL_law_1327 rfl (lv_at hl 0 rfl) ?_
  refine lv_iload_n hx hb dL_law_1328 rfl (lv_at hl 3 rfl) ?_
  refine lv_iconst (v := 2) hx hb dL_law_1329 (by decide) ?_
  refine lv_iadd hx hb dL_law_1330 ?_
  refine tp (v := 2) (by decide) ?_
  refine va_sld hx hb hX hbl hbA hS (vinL (by decide)) dL_law_1331 ?_
  refine tp (v := (xs 2)) rfl ?_
  refine lv_aload_n hx hb dL_law_1332 rfl (lv_at hl 0 rfl) ?_
  refine lv_iload_n hx hb dL_law_1333 rfl (lv_at hl 3 rfl) ?_
  refine lv_iconst (v := 3) hx hb dL_law_1334 (by decide) ?_
  refine lv_iadd hx hb dL_law_1335 ?_
  refine tp (v := 3) (by decide) ?_
  refine va_sld hx hb hX hbl hbA hS (vinL (by decide)) dL_law_1336 ?_
  refine tp (v := (xs 3)) rfl ?_
  refine wV (B := (fun _ => True)) (wr := []) (rest := [.int (F_learn (xs 1) (xs 2) (xs 3))]) hx hb hml hown hts hE (c_X12_learn l G cy sk H.size mo nw nk na fd ea so nd cd nmd pl tl fr_ rw_ brw po trc wi sz_ nu ca (fun _ => 0) (xs 1) (xs 2) (xs 3)) kV_X12_learn m_1783 rfl rfl ⟨(Nat.le_of_ble_eq_true rfl), (Nat.le_of_ble_eq_true rfl)⟩ hP hD hS hA 0 rfl rfl rfl [0, 1, 2] [] rfl rfl rfl rfl (by decide) rfl rfl hl.1 (Nat.le_of_ble_eq_true rfl) dL_law_1337 ⟨(Nat.le_of_ble_eq_true rfl), (Nat.le_of_ble_eq_true rfl)⟩ (fun r_2 H locs hr_ haf hS => ?_)
  obtain ⟨-, -, hP, hD⟩ := haf
  have hP : va_P G classes [] H := hP
  have hD : va_D A [] := hD
  subst hr_
  refine lv_icmp_eq (tgt := 1731) hx hb dL_law_1340 (by decide) (fun _ => ?_) (fun h9 => absurd rfl h9)
  exact hend H locs ls hS (lv_sub hl [0, 3] rfl)
set_option maxHeartbeats 4000000 in
set_option maxRecDepth 100000 in
theorem law_case_29 {p : Program} {e : Env} {s : State} {m : MethodId} {below : List Frame} {meth : Method} {c : Code} {Q : State → Prop} (l : Launch) {b : Nat} {xs : Nat → Int32} {A : Nat → Prop} {G : va_G} {cy : Nat → ClassId} {sk : Nat → Nat} {H : Heap} {locs : List Loc} {ls : Array Slot} (x : Nat) (lv : Nat) (kp : Nat) (tr_ : Nat) (sh : Nat) (er : Nat) (re : Nat) (fi : Nat) (vo : Nat) (st : Nat) (la : Nat) (le : Nat) (ta : Nat) (wa : Nat) (wk : Nat) (mo : Nat) (nw : Nat) (nk : Nat) (na : Nat) (fd : Nat) (ea : Nat) (so : Nat) (nd : Nat) (cd : Nat) (nmd : Nat) (pl : Nat) (tl : Nat) (fr_ : Nat) (rw_ : Nat) (brw : Nat) (po : Nat) (trc : Nat) (wi : Nat) (sz_ : Nat) (nu : Nat) (ca : Nat)  : p.tables.exec = Jvm.exec → c.code = code → c.maxLocals = 4 → s.vm.findClass RL = some m.cls → (∀ w ∈ BASE, w.before #[Value.ref b] s = true) → EN G cy sk s → va_X b 6 xs s s.heap → b < s.heap.size → ¬ A b → (∀ q, s.heap.size ≤ q → A q) → va_P G classes [(x, .inr (11, [.ref lv, .ref kp, .ref tr_, .ref sh, .ref er, .ref re, .ref fi, .ref vo, .int 0])), (er, .inl (cy 0, 7, .inl (fun _ => 0))), (lv, .inr (10, [.ref st, .ref la, .ref le, .ref ta, .ref wa, .ref wk, .int 0, .int 0])), (mo, .inr (12, [.ref nw, .ref nk, .ref na, .int 0, .ref fd, .ref ea, .ref so, .int (-1), .ref nd, .int 0, .int 0, .int 0, .int 0, .int 0, .int 0, .ref cd, .ref nmd, .ref pl, .ref tl, .ref fr_, .ref rw_, .ref brw, .int 0, .int 0, .ref po, .ref trc, .int 0, .int 0, .int 0, .ref wi, .ref sz_, .ref nu, .ref ca])), (nw, .inl (cy 0, 3567, .inl nw0)), (fd, .inl (cy 0, 7, .inl (fun _ => 0)))] H → va_D A [(x, .inr (11, [.ref lv, .ref kp, .ref tr_, .ref sh, .ref er, .ref re, .ref fi, .ref vo, .int 0])), (er, .inl (cy 0, 7, .inl (fun _ => 0))), (lv, .inr (10, [.ref st, .ref la, .ref le, .ref ta, .ref wa, .ref wk, .int 0, .int 0])), (mo, .inr (12, [.ref nw, .ref nk, .ref na, .int 0, .ref fd, .ref ea, .ref so, .int (-1), .ref nd, .int 0, .int 0, .int 0, .int 0, .int 0, .int 0, .ref cd, .ref nmd, .ref pl, .ref tl, .ref fr_, .ref rw_, .ref brw, .int 0, .int 0, .ref po, .ref trc, .int 0, .int 0, .int 0, .ref wi, .ref sz_, .ref nu, .ref ca])), (nw, .inl (cy 0, 3567, .inl nw0)), (fd, .inl (cy 0, 7, .inl (fun _ => 0)))] → va_S A s.heap H locs → lv_has ls 4 [(0, .ref b), (1, .ref x), (2, .ref mo), (3, .int 0)] → (∀ (H : Heap) (locs : List Loc) (ls : Array Slot), va_S A s.heap H locs → lv_has ls 4 [(0, .ref b), (3, .int 0)] → W p l e room_1 s m #[Value.ref b] below meth c H locs 222 26621 Q (F0 m 1731 ls [])) → W p l e room_1 s m #[Value.ref b] below meth c H locs 222 26621 Q (F0 m 1345 ls []) := by
  intro hx hb hml hown hts hE hX hbl hbA hA hP hD hS hl hend
  have hP : va_P G classes [(x, .inr (11, [.ref lv, .ref kp, .ref tr_, .ref sh, .ref er, .ref re, .ref fi, .ref vo, .int 0])), (er, .inl (cy 0, 7, .inl (fun _ => 0))), (lv, .inr (10, [.ref st, .ref la, .ref le, .ref ta, .ref wa, .ref wk, .int 0, .int 0])), (mo, .inr (12, [.ref nw, .ref nk, .ref na, .int 0, .ref fd, .ref ea, .ref so, .int (-1), .ref nd, .int 0, .int 0, .int 0, .int 0, .int 0, .int 0, .ref cd, .ref nmd, .ref pl, .ref tl, .ref fr_, .ref rw_, .ref brw, .int 0, .int 0, .ref po, .ref trc, .int 0, .int 0, .int 0, .ref wi, .ref sz_, .ref nu, .ref ca])), (nw, .inl (cy 0, 3567, .inl nw0)), (fd, .inl (cy 0, 7, .inl (fun _ => 0)))] H := hP
  refine lv_aload_n hx hb dL_law_1345 rfl (lv_at hl 1 rfl) ?_
  refine lv_aload_n hx hb dL_law_1346 rfl (lv_at hl 0 rfl) ?_
  refine lv_iload_n hx hb dL_law_1347 rfl (lv_at hl 3 rfl) ?_
  refine lv_iconst (v := 1) hx hb dL_law_1348 (by decide) ?_
  refine lv_iadd hx hb dL_law_1349 ?_
  refine tp (v := 1) (by decide) ?_
  refine va_sld hx hb hX hbl hbA hS (vinL (by decide)) dL_law_1350 ?_
  refine tp (v := (xs 1)) rfl ?_
  refine lv_aload_n hx hb dL_law_1351 rfl (lv_at hl 0 rfl) ?_
  refine lv_iload_n hx hb dL_law_1352 rfl (lv_at hl 3 rfl) ?_
  refine lv_iconst (v := 2) hx hb dL_law_1353 (by decide) ?_
  refine lv_iadd hx hb dL_law_1354 ?_
  refine tp (v := 2) (by decide) ?_
  refine va_sld hx hb hX hbl hbA hS (vinL (by decide)) dL_law_1355 ?_
  refine tp (v := (xs 2)) rfl ?_
  refine lv_aload_n hx hb dL_law_1356 rfl (lv_at hl 0 rfl) ?_
  refine lv_iload_n hx hb dL_law_1357 rfl (lv_at hl 3 rfl) ?_
  refine lv_iconst (v := 3) hx hb dL_law_1358 (by decide) ?_
  refine lv_iadd hx hb dL_law_1359 ?_
  refine tp (v := 3) (by decide) ?_
  refine va_sld hx hb hX hbl hbA hS (vinL (by decide)) dL_law_1360 ?_
  refine tp (v := (xs 3)) rfl ?_
  refine lv_aload_n hx hb dL_law_1361 rfl (lv_at hl 0 rfl) ?_
  refine lv_iload_n hx hb dL_law_1362 rfl (lv_at hl 3 rfl) ?_
  refine lv_iconst (v := 4) hx hb dL_law_1363 (by decide) ?_
  refine lv_iadd hx hb dL_law_1364 ?_
  refine tp (v := 4) (by decide) ?_
  refine va_sld hx hb hX hbl hbA hS (vinL (by decide)) dL_law_1365 ?_
  refine tp (v := (xs 4)) rfl ?_
  refine wV (B := (fun _ => True)) (wr := [(mo, .inr (12, [.ref nw, .ref nk, .ref na, .int 0, .ref fd, .ref ea, .ref so, .int (-1), .ref nd, .int 0, .int 0, .int 0, .int 0, .int 0, .int 0, .ref cd, .ref nmd, .ref pl, .ref tl, .ref fr_, .ref rw_, .ref brw, .int 0, .int 0, .ref po, .ref trc, .int 0, .int 0, .int 0, .ref wi, .ref sz_, .ref nu, .ref ca])), (nw, .inl (cy 0, 3567, .inl nw0)), (fd, .inl (cy 0, 7, .inl (fun _ => 0)))]) (rest := []) hx hb hml hown hts hE (c_X11_posts l G cy sk H.size x lv kp tr_ sh er re fi vo (fun _ => 0) lv st la le ta wa wk (xs 1) (xs 2) (xs 3) (xs 4)) kV_X11_posts m_1155 rfl rfl ⟨(Nat.le_of_ble_eq_true rfl), (Nat.le_of_ble_eq_true rfl)⟩ hP hD hS hA 0 rfl rfl rfl [0, 1, 2] [3, 4, 5] rfl rfl rfl rfl (by decide) rfl rfl hl.1 (Nat.le_of_ble_eq_true rfl) dL_law_1366 ⟨(Nat.le_of_ble_eq_true rfl), (Nat.le_of_ble_eq_true rfl)⟩ (fun r_1 H locs hr_ haf hS => ?_)
  obtain ⟨-, -, hP, hD⟩ := haf
  have hP : va_P G classes [(mo, .inr (12, [.ref nw, .ref nk, .ref na, .int 0, .ref fd, .ref ea, .ref so, .int (-1), .ref nd, .int 0, .int 0, .int 0, .int 0, .int 0, .int 0, .ref cd, .ref nmd, .ref pl, .ref tl, .ref fr_, .ref rw_, .ref brw, .int 0, .int 0, .ref po, .ref trc, .int 0, .int 0, .int 0, .ref wi, .ref sz_, .ref nu, .ref ca])), (nw, .inl (cy 0, 3567, .inl nw0)), (fd, .inl (cy 0, 7, .inl (fun _ => 0)))] H := hP
  have hD : va_D A [(mo, .inr (12, [.ref nw, .ref nk, .ref na, .int 0, .ref fd, .ref ea, .ref so, .int (-1), .ref nd, .int 0, .int 0, .int 0, .int 0, .int 0, .int 0, .ref cd, .ref nmd, .ref pl, .ref tl, .ref fr_, .ref rw_, .ref brw, .int 0, .int 0, .ref po, .ref trc, .int 0, .int 0, .int 0, .ref wi, .ref sz_, .ref nu, .ref ca])), (nw, .inl (cy 0, 3567, .inl nw0)), (fd, .inl (cy 0, 7, .inl (fun _ => 0)))] := hD
  subst hr_
  refine lv_aload_n hx hb dL_law_1369 rfl (lv_at hl 2 rfl) ?_
  refine lv_aload_n hx hb dL_law_1370 rfl (lv_at hl 0 rfl) ?_
  refine lv_iload_n hx hb dL_law_1371 rfl (lv_at hl 3 rfl) ?_
  refine lv_iconst (v := 1) hx hb dL_law_1372 (by decide) ?_
  refine lv_iadd hx hb dL_law_1373 ?_
  refine tp (v := 1) (by decide) ?_
  refine va_sld hx hb hX hbl hbA hS (vinL (by decide)) dL_law_1374 ?_
  refine tp (v := (xs 1)) rfl ?_
  refine lv_aload_n hx hb dL_law_1375 rfl (lv_at hl 0 rfl) ?_
  refine lv_iload_n hx hb dL_law_1376 rfl (lv_at hl 3 rfl) ?_
  refine lv_iconst (v := 2) hx hb dL_law_1377 (by decide) ?_
  refine lv_iadd hx hb dL_law_1378 ?_
  refine tp (v := 2) (by decide) ?_
  refine va_sld hx hb hX hbl hbA hS (vinL (by decide)) dL_law_1379 ?_
  refine tp (v := (xs 2)) rfl ?_
  refine lv_aload_n hx hb dL_law_1380 rfl (lv_at hl 0 rfl) ?_
  refine lv_iload_n hx hb dL_law_1381 rfl (lv_at hl 3 rfl) ?_
  refine lv_iconst (v := 3) hx hb dL_law_1382 (by decide) ?_
  refine lv_iadd hx hb dL_law_1383 ?_
  refine tp (v := 3) (by decide) ?_
  refine va_sld hx hb hX hbl hbA hS (vinL (by decide)) dL_law_1384 ?_
  refine tp (v := (xs 3)) rfl ?_
  refine lv_aload_n hx hb dL_law_1385 rfl (lv_at hl 0 rfl) ?_
  refine lv_iload_n hx hb dL_law_1386 rfl (lv_at hl 3 rfl) ?_
  refine lv_iconst (v := 4) hx hb dL_law_1387 (by decide) ?_
  refine lv_iadd hx hb dL_law_1388 ?_
  refine tp (v := 4) (by decide) ?_
  refine va_sld hx hb hX hbl hbA hS (vinL (by decide)) dL_law_1389 ?_
  refine tp (v := (xs 4)) rfl ?_
  refine wV (B := (fun _ => True)) (wr := []) (rest := [.int (-1000001)]) hx hb hml hown hts hE (c_X12_posts l G cy sk H.size mo nw nk na fd ea so nd cd nmd pl tl fr_ rw_ brw po trc wi sz_ nu ca (fun _ => 0) (xs 1) (xs 2) (xs 3) (xs 4)) kV_X12_posts m_1791 rfl rfl ⟨(Nat.le_of_ble_eq_true rfl), (Nat.le_of_ble_eq_true rfl)⟩ hP hD hS hA 0 rfl rfl rfl [0, 1, 2] [] rfl rfl rfl rfl (by decide) rfl rfl hl.1 (Nat.le_of_ble_eq_true rfl) dL_law_1390 ⟨(Nat.le_of_ble_eq_true rfl), (Nat.le_of_ble_eq_true rfl)⟩ (fun r_2 H locs hr_ haf hS => ?_)
  obtain ⟨-, -, hP, hD⟩ := haf
  have hP : va_P G classes [] H := hP
  have hD : va_D A [] := hD
  subst hr_
  refine lv_icmp_eq (tgt := 1731) hx hb dL_law_1393 (by decide) (fun _ => ?_) (fun h9 => absurd h9 (by decide))
  exact hend H locs ls hS (lv_sub hl [0, 3] rfl)
set_option maxHeartbeats 4000000 in
set_option maxRecDepth 100000 in
theorem law_case_30 {p : Program} {e : Env} {s : State} {m : MethodId} {below : List Frame} {meth : Method} {c : Code} {Q : State → Prop} (l : Launch) {b : Nat} {xs : Nat → Int32} {A : Nat → Prop} {G : va_G} {cy : Nat → ClassId} {sk : Nat → Nat} {H : Heap} {locs : List Loc} {ls : Array Slot} (x : Nat) (lv : Nat) (kp : Nat) (tr_ : Nat) (sh : Nat) (er : Nat) (re : Nat) (fi : Nat) (vo : Nat) (st : Nat) (la : Nat) (le : Nat) (ta : Nat) (wa : Nat) (wk : Nat) (mo : Nat) (nw : Nat) (nk : Nat) (na : Nat) (fd : Nat) (ea : Nat) (so : Nat) (nd : Nat) (cd : Nat) (nmd : Nat) (pl : Nat) (tl : Nat) (fr_ : Nat) (rw_ : Nat) (brw : Nat) (po : Nat) (trc : Nat) (wi : Nat) (sz_ : Nat) (nu : Nat) (ca : Nat)  : p.tables.exec = Jvm.exec → c.code = code → c.maxLocals = 4 → s.vm.findClass RL = some m.cls → (∀ w ∈ BASE, w.before #[Value.ref b] s = true) → EN G cy sk s → va_X b 6 xs s s.heap → b < s.heap.size → ¬ A b → (∀ q, s.heap.size ≤ q → A q) → va_P G classes [(x, .inr (11, [.ref lv, .ref kp, .ref tr_, .ref sh, .ref er, .ref re, .ref fi, .ref vo, .int 0])), (er, .inl (cy 0, 7, .inl (fun _ => 0))), (lv, .inr (10, [.ref st, .ref la, .ref le, .ref ta, .ref wa, .ref wk, .int 0, .int 0])), (mo, .inr (12, [.ref nw, .ref nk, .ref na, .int 0, .ref fd, .ref ea, .ref so, .int (-1), .ref nd, .int 0, .int 0, .int 0, .int 0, .int 0, .int 0, .ref cd, .ref nmd, .ref pl, .ref tl, .ref fr_, .ref rw_, .ref brw, .int 0, .int 0, .ref po, .ref trc, .int 0, .int 0, .int 0, .ref wi, .ref sz_, .ref nu, .ref ca])), (nw, .inl (cy 0, 3567, .inl nw0)), (fd, .inl (cy 0, 7, .inl (fun _ => 0)))] H → va_D A [(x, .inr (11, [.ref lv, .ref kp, .ref tr_, .ref sh, .ref er, .ref re, .ref fi, .ref vo, .int 0])), (er, .inl (cy 0, 7, .inl (fun _ => 0))), (lv, .inr (10, [.ref st, .ref la, .ref le, .ref ta, .ref wa, .ref wk, .int 0, .int 0])), (mo, .inr (12, [.ref nw, .ref nk, .ref na, .int 0, .ref fd, .ref ea, .ref so, .int (-1), .ref nd, .int 0, .int 0, .int 0, .int 0, .int 0, .int 0, .ref cd, .ref nmd, .ref pl, .ref tl, .ref fr_, .ref rw_, .ref brw, .int 0, .int 0, .ref po, .ref trc, .int 0, .int 0, .int 0, .ref wi, .ref sz_, .ref nu, .ref ca])), (nw, .inl (cy 0, 3567, .inl nw0)), (fd, .inl (cy 0, 7, .inl (fun _ => 0)))] → va_S A s.heap H locs → lv_has ls 4 [(0, .ref b), (1, .ref x), (2, .ref mo), (3, .int 0)] → (∀ (H : Heap) (locs : List Loc) (ls : Array Slot), va_S A s.heap H locs → lv_has ls 4 [(0, .ref b), (3, .int 0)] → W p l e room_1 s m #[Value.ref b] below meth c H locs 222 26621 Q (F0 m 1731 ls [])) → W p l e room_1 s m #[Value.ref b] below meth c H locs 222 26621 Q (F0 m 1398 ls []) := by
  intro hx hb hml hown hts hE hX hbl hbA hA hP hD hS hl hend
  have hP : va_P G classes [(x, .inr (11, [.ref lv, .ref kp, .ref tr_, .ref sh, .ref er, .ref re, .ref fi, .ref vo, .int 0])), (er, .inl (cy 0, 7, .inl (fun _ => 0))), (lv, .inr (10, [.ref st, .ref la, .ref le, .ref ta, .ref wa, .ref wk, .int 0, .int 0])), (mo, .inr (12, [.ref nw, .ref nk, .ref na, .int 0, .ref fd, .ref ea, .ref so, .int (-1), .ref nd, .int 0, .int 0, .int 0, .int 0, .int 0, .int 0, .ref cd, .ref nmd, .ref pl, .ref tl, .ref fr_, .ref rw_, .ref brw, .int 0, .int 0, .ref po, .ref trc, .int 0, .int 0, .int 0, .ref wi, .ref sz_, .ref nu, .ref ca])), (nw, .inl (cy 0, 3567, .inl nw0)), (fd, .inl (cy 0, 7, .inl (fun _ => 0)))] H := hP
  refine lv_aload_n hx hb dL_law_1398 rfl (lv_at hl 1 rfl) ?_
  refine lv_aload_n hx hb dL_law_1399 rfl (lv_at hl 0 rfl) ?_
  refine lv_iload_n hx hb dL_law_1400 rfl (lv_at hl 3 rfl) ?_
  refine lv_iconst (v := 1) hx hb dL_law_1401 (by decide) ?_
  refine lv_iadd hx hb dL_law_1402 ?_
  refine tp (v := 1) (by decide) ?_
  refine va_sld hx hb hX hbl hbA hS (vinL (by decide)) dL_law_1403 ?_
  refine tp (v := (xs 1)) rfl ?_
  refine lv_aload_n hx hb dL_law_1404 rfl (lv_at hl 0 rfl) ?_
  refine lv_iload_n hx hb dL_law_1405 rfl (lv_at hl 3 rfl) ?_
  refine lv_iconst (v := 2) hx hb dL_law_1406 (by decide) ?_
  refine lv_iadd hx hb dL_law_1407 ?_
  refine tp (v := 2) (by decide) ?_
  refine va_sld hx hb hX hbl hbA hS (vinL (by decide)) dL_law_1408 ?_
  refine tp (v := (xs 2)) rfl ?_
  refine lv_aload_n hx hb dL_law_1409 rfl (lv_at hl 0 rfl) ?_
  refine lv_iload_n hx hb dL_law_1410 rfl (lv_at hl 3 rfl) ?_
  refine lv_iconst (v := 3) hx hb dL_law_1411 (by decide) ?_
  refine lv_iadd hx hb dL_law_1412 ?_
  refine tp (v := 3) (by decide) ?_
  refine va_sld hx hb hX hbl hbA hS (vinL (by decide)) dL_law_1413 ?_
  refine tp (v := (xs 3)) rfl ?_
  refine wV (B := (fun _ => True)) (wr := [(mo, .inr (12, [.ref nw, .ref nk, .ref na, .int 0, .ref fd, .ref ea, .ref so, .int (-1), .ref nd, .int 0, .int 0, .int 0, .int 0, .int 0, .int 0, .ref cd, .ref nmd, .ref pl, .ref tl, .ref fr_, .ref rw_, .ref brw, .int 0, .int 0, .ref po, .ref trc, .int 0, .int 0, .int 0, .ref wi, .ref sz_, .ref nu, .ref ca])), (nw, .inl (cy 0, 3567, .inl nw0)), (fd, .inl (cy 0, 7, .inl (fun _ => 0)))]) (rest := []) hx hb hml hown hts hE (c_X11_voice l G cy sk H.size x lv kp tr_ sh er re fi vo (fun _ => 0) lv st la le ta wa wk (xs 1) (xs 2) (xs 3)) kV_X11_voice m_1176 rfl rfl ⟨(Nat.le_of_ble_eq_true rfl), (Nat.le_of_ble_eq_true rfl)⟩ hP hD hS hA 0 rfl rfl rfl [0, 1, 2] [3, 4, 5] rfl rfl rfl rfl (by decide) rfl rfl hl.1 (Nat.le_of_ble_eq_true rfl) dL_law_1414 ⟨(Nat.le_of_ble_eq_true rfl), (Nat.le_of_ble_eq_true rfl)⟩ (fun r_1 H locs hr_ haf hS => ?_)
  obtain ⟨-, -, hP, hD⟩ := haf
  have hP : va_P G classes [(mo, .inr (12, [.ref nw, .ref nk, .ref na, .int 0, .ref fd, .ref ea, .ref so, .int (-1), .ref nd, .int 0, .int 0, .int 0, .int 0, .int 0, .int 0, .ref cd, .ref nmd, .ref pl, .ref tl, .ref fr_, .ref rw_, .ref brw, .int 0, .int 0, .ref po, .ref trc, .int 0, .int 0, .int 0, .ref wi, .ref sz_, .ref nu, .ref ca])), (nw, .inl (cy 0, 3567, .inl nw0)), (fd, .inl (cy 0, 7, .inl (fun _ => 0)))] H := hP
  have hD : va_D A [(mo, .inr (12, [.ref nw, .ref nk, .ref na, .int 0, .ref fd, .ref ea, .ref so, .int (-1), .ref nd, .int 0, .int 0, .int 0, .int 0, .int 0, .int 0, .ref cd, .ref nmd, .ref pl, .ref tl, .ref fr_, .ref rw_, .ref brw, .int 0, .int 0, .ref po, .ref trc, .int 0, .int 0, .int 0, .ref wi, .ref sz_, .ref nu, .ref ca])), (nw, .inl (cy 0, 3567, .inl nw0)), (fd, .inl (cy 0, 7, .inl (fun _ => 0)))] := hD
  subst hr_
  refine lv_aload_n hx hb dL_law_1417 rfl (lv_at hl 2 rfl) ?_
  refine lv_aload_n hx hb dL_law_1418 rfl (lv_at hl 0 rfl) ?_
  refine lv_iload_n hx hb dL_law_1419 rfl (lv_at hl 3 rfl) ?_
  refine lv_iconst (v := 1) hx hb dL_law_1420 (by decide) ?_
  refine lv_iadd hx hb dL_law_1421 ?_
  refine tp (v := 1) (by decide) ?_
  refine va_sld hx hb hX hbl hbA hS (vinL (by decide)) dL_law_1422 ?_
  refine tp (v := (xs 1)) rfl ?_
  refine lv_aload_n hx hb dL_law_1423 rfl (lv_at hl 0 rfl) ?_
  refine lv_iload_n hx hb dL_law_1424 rfl (lv_at hl 3 rfl) ?_
  refine lv_iconst (v := 2) hx hb dL_law_1425 (by decide) ?_
  refine lv_iadd hx hb dL_law_1426 ?_
  refine tp (v := 2) (by decide) ?_
  refine va_sld hx hb hX hbl hbA hS (vinL (by decide)) dL_law_1427 ?_
  refine tp (v := (xs 2)) rfl ?_
  refine lv_aload_n hx hb dL_law_1428 rfl (lv_at hl 0 rfl) ?_
  refine lv_iload_n hx hb dL_law_1429 rfl (lv_at hl 3 rfl) ?_
  refine lv_iconst (v := 3) hx hb dL_law_1430 (by decide) ?_
  refine lv_iadd hx hb dL_law_1431 ?_
  refine tp (v := 3) (by decide) ?_
  refine va_sld hx hb hX hbl hbA hS (vinL (by decide)) dL_law_1432 ?_
  refine tp (v := (xs 3)) rfl ?_
  refine wV (B := (fun _ => True)) (wr := []) (rest := [.int (-1000001)]) hx hb hml hown hts hE (c_X12_voice l G cy sk H.size mo nw nk na fd ea so nd cd nmd pl tl fr_ rw_ brw po trc wi sz_ nu ca (fun _ => 0) (xs 1) (xs 2) (xs 3)) kV_X12_voice m_1799 rfl rfl ⟨(Nat.le_of_ble_eq_true rfl), (Nat.le_of_ble_eq_true rfl)⟩ hP hD hS hA 0 rfl rfl rfl [0, 1, 2] [] rfl rfl rfl rfl (by decide) rfl rfl hl.1 (Nat.le_of_ble_eq_true rfl) dL_law_1433 ⟨(Nat.le_of_ble_eq_true rfl), (Nat.le_of_ble_eq_true rfl)⟩ (fun r_2 H locs hr_ haf hS => ?_)
  obtain ⟨-, -, hP, hD⟩ := haf
  have hP : va_P G classes [] H := hP
  have hD : va_D A [] := hD
  subst hr_
  refine lv_icmp_eq (tgt := 1731) hx hb dL_law_1436 (by decide) (fun _ => ?_) (fun h9 => absurd h9 (by decide))
  exact hend H locs ls hS (lv_sub hl [0, 3] rfl)
set_option maxHeartbeats 4000000 in
set_option maxRecDepth 100000 in
theorem law_case_31 {p : Program} {e : Env} {s : State} {m : MethodId} {below : List Frame} {meth : Method} {c : Code} {Q : State → Prop} (l : Launch) {b : Nat} {xs : Nat → Int32} {A : Nat → Prop} {G : va_G} {cy : Nat → ClassId} {sk : Nat → Nat} {H : Heap} {locs : List Loc} {ls : Array Slot} (x : Nat) (lv : Nat) (kp : Nat) (tr_ : Nat) (sh : Nat) (er : Nat) (re : Nat) (fi : Nat) (vo : Nat) (bg : Nat) (vt : Nat) (vta : Nat) (mo : Nat) (nw : Nat) (nk : Nat) (na : Nat) (fd : Nat) (ea : Nat) (so : Nat) (nd : Nat) (cd : Nat) (nmd : Nat) (pl : Nat) (tl : Nat) (fr_ : Nat) (rw_ : Nat) (brw : Nat) (po : Nat) (trc : Nat) (wi : Nat) (sz_ : Nat) (nu : Nat) (ca : Nat)  : p.tables.exec = Jvm.exec → c.code = code → c.maxLocals = 4 → s.vm.findClass RL = some m.cls → (∀ w ∈ BASE, w.before #[Value.ref b] s = true) → EN G cy sk s → va_X b 6 xs s s.heap → b < s.heap.size → ¬ A b → (∀ q, s.heap.size ≤ q → A q) → va_P G classes [(x, .inr (11, [.ref lv, .ref kp, .ref tr_, .ref sh, .ref er, .ref re, .ref fi, .ref vo, .int 0])), (er, .inl (cy 0, 7, .inl (fun _ => 0))), (vo, .inr (8, [.ref bg, .ref vt, .int 0, .int 0, .int 0, .int 0])), (vt, .inr (5, [.ref vta, .int 0])), (mo, .inr (12, [.ref nw, .ref nk, .ref na, .int 0, .ref fd, .ref ea, .ref so, .int (-1), .ref nd, .int 0, .int 0, .int 0, .int 0, .int 0, .int 0, .ref cd, .ref nmd, .ref pl, .ref tl, .ref fr_, .ref rw_, .ref brw, .int 0, .int 0, .ref po, .ref trc, .int 0, .int 0, .int 0, .ref wi, .ref sz_, .ref nu, .ref ca])), (nw, .inl (cy 0, 3567, .inl nw0)), (fd, .inl (cy 0, 7, .inl (fun _ => 0)))] H → va_D A [(x, .inr (11, [.ref lv, .ref kp, .ref tr_, .ref sh, .ref er, .ref re, .ref fi, .ref vo, .int 0])), (er, .inl (cy 0, 7, .inl (fun _ => 0))), (vo, .inr (8, [.ref bg, .ref vt, .int 0, .int 0, .int 0, .int 0])), (vt, .inr (5, [.ref vta, .int 0])), (mo, .inr (12, [.ref nw, .ref nk, .ref na, .int 0, .ref fd, .ref ea, .ref so, .int (-1), .ref nd, .int 0, .int 0, .int 0, .int 0, .int 0, .int 0, .ref cd, .ref nmd, .ref pl, .ref tl, .ref fr_, .ref rw_, .ref brw, .int 0, .int 0, .ref po, .ref trc, .int 0, .int 0, .int 0, .ref wi, .ref sz_, .ref nu, .ref ca])), (nw, .inl (cy 0, 3567, .inl nw0)), (fd, .inl (cy 0, 7, .inl (fun _ => 0)))] → va_S A s.heap H locs → lv_has ls 4 [(0, .ref b), (1, .ref x), (2, .ref mo), (3, .int 0)] → (∀ (H : Heap) (locs : List Loc) (ls : Array Slot), va_S A s.heap H locs → lv_has ls 4 [(0, .ref b), (3, .int 0)] → W p l e room_1 s m #[Value.ref b] below meth c H locs 222 26621 Q (F0 m 1731 ls [])) → W p l e room_1 s m #[Value.ref b] below meth c H locs 222 26621 Q (F0 m 1441 ls []) := by
  intro hx hb hml hown hts hE hX hbl hbA hA hP hD hS hl hend
  have hP : va_P G classes [(x, .inr (11, [.ref lv, .ref kp, .ref tr_, .ref sh, .ref er, .ref re, .ref fi, .ref vo, .int 0])), (er, .inl (cy 0, 7, .inl (fun _ => 0))), (vo, .inr (8, [.ref bg, .ref vt, .int 0, .int 0, .int 0, .int 0])), (vt, .inr (5, [.ref vta, .int 0])), (mo, .inr (12, [.ref nw, .ref nk, .ref na, .int 0, .ref fd, .ref ea, .ref so, .int (-1), .ref nd, .int 0, .int 0, .int 0, .int 0, .int 0, .int 0, .ref cd, .ref nmd, .ref pl, .ref tl, .ref fr_, .ref rw_, .ref brw, .int 0, .int 0, .ref po, .ref trc, .int 0, .int 0, .int 0, .ref wi, .ref sz_, .ref nu, .ref ca])), (nw, .inl (cy 0, 3567, .inl nw0)), (fd, .inl (cy 0, 7, .inl (fun _ => 0)))] H := hP
  refine lv_aload_n hx hb dL_law_1441 rfl (lv_at hl 1 rfl) ?_
  refine lv_aload_n hx hb dL_law_1442 rfl (lv_at hl 0 rfl) ?_
  refine lv_iload_n hx hb dL_law_1443 rfl (lv_at hl 3 rfl) ?_
  refine lv_iconst (v := 1) hx hb dL_law_1444 (by decide) ?_
  refine lv_iadd hx hb dL_law_1445 ?_
  refine tp (v := 1) (by decide) ?_
  refine va_sld hx hb hX hbl hbA hS (vinL (by decide)) dL_law_1446 ?_
  refine tp (v := (xs 1)) rfl ?_
  refine wV (B := (fun _ => True)) (wr := [(mo, .inr (12, [.ref nw, .ref nk, .ref na, .int 0, .ref fd, .ref ea, .ref so, .int (-1), .ref nd, .int 0, .int 0, .int 0, .int 0, .int 0, .int 0, .ref cd, .ref nmd, .ref pl, .ref tl, .ref fr_, .ref rw_, .ref brw, .int 0, .int 0, .ref po, .ref trc, .int 0, .int 0, .int 0, .ref wi, .ref sz_, .ref nu, .ref ca])), (nw, .inl (cy 0, 3567, .inl nw0)), (fd, .inl (cy 0, 7, .inl (fun _ => 0)))]) (rest := []) hx hb hml hown hts hE (c_X11_trace l G cy sk H.size x lv kp tr_ sh er re fi vo (fun _ => 0) bg vt vta (xs 1)) kV_X11_trace m_1210 rfl rfl ⟨(Nat.le_of_ble_eq_true rfl), (Nat.le_of_ble_eq_true rfl)⟩ hP hD hS hA 0 rfl rfl rfl [0, 1, 2, 3] [4, 5, 6] rfl rfl rfl rfl (by decide) rfl rfl hl.1 (Nat.le_of_ble_eq_true rfl) dL_law_1447 ⟨(Nat.le_of_ble_eq_true rfl), (Nat.le_of_ble_eq_true rfl)⟩ (fun r_1 H locs hr_ haf hS => ?_)
  obtain ⟨-, -, hP, hD⟩ := haf
  have hP : va_P G classes [(mo, .inr (12, [.ref nw, .ref nk, .ref na, .int 0, .ref fd, .ref ea, .ref so, .int (-1), .ref nd, .int 0, .int 0, .int 0, .int 0, .int 0, .int 0, .ref cd, .ref nmd, .ref pl, .ref tl, .ref fr_, .ref rw_, .ref brw, .int 0, .int 0, .ref po, .ref trc, .int 0, .int 0, .int 0, .ref wi, .ref sz_, .ref nu, .ref ca])), (nw, .inl (cy 0, 3567, .inl nw0)), (fd, .inl (cy 0, 7, .inl (fun _ => 0)))] H := hP
  have hD : va_D A [(mo, .inr (12, [.ref nw, .ref nk, .ref na, .int 0, .ref fd, .ref ea, .ref so, .int (-1), .ref nd, .int 0, .int 0, .int 0, .int 0, .int 0, .int 0, .ref cd, .ref nmd, .ref pl, .ref tl, .ref fr_, .ref rw_, .ref brw, .int 0, .int 0, .ref po, .ref trc, .int 0, .int 0, .int 0, .ref wi, .ref sz_, .ref nu, .ref ca])), (nw, .inl (cy 0, 3567, .inl nw0)), (fd, .inl (cy 0, 7, .inl (fun _ => 0)))] := hD
  subst hr_
  refine lv_aload_n hx hb dL_law_1450 rfl (lv_at hl 2 rfl) ?_
  refine lv_aload_n hx hb dL_law_1451 rfl (lv_at hl 0 rfl) ?_
  refine lv_iload_n hx hb dL_law_1452 rfl (lv_at hl 3 rfl) ?_
  refine lv_iconst (v := 1) hx hb dL_law_1453 (by decide) ?_
  refine lv_iadd hx hb dL_law_1454 ?_
  refine tp (v := 1) (by decide) ?_
  refine va_sld hx hb hX hbl hbA hS (vinL (by decide)) dL_law_1455 ?_
  refine tp (v := (xs 1)) rfl ?_
  refine wV (B := (fun _ => True)) (wr := []) (rest := [.int (-1000002)]) hx hb hml hown hts hE (c_X12_trace l G cy sk H.size mo nw nk na fd ea so nd cd nmd pl tl fr_ rw_ brw po trc wi sz_ nu ca (fun _ => 0) (xs 1)) kV_X12_trace m_1823 rfl rfl ⟨(Nat.le_of_ble_eq_true rfl), (Nat.le_of_ble_eq_true rfl)⟩ hP hD hS hA 0 rfl rfl rfl [0, 1, 2] [] rfl rfl rfl rfl (by decide) rfl rfl hl.1 (Nat.le_of_ble_eq_true rfl) dL_law_1456 ⟨(Nat.le_of_ble_eq_true rfl), (Nat.le_of_ble_eq_true rfl)⟩ (fun r_2 H locs hr_ haf hS => ?_)
  obtain ⟨-, -, hP, hD⟩ := haf
  have hP : va_P G classes [] H := hP
  have hD : va_D A [] := hD
  subst hr_
  refine lv_icmp_eq (tgt := 1731) hx hb dL_law_1459 (by decide) (fun _ => ?_) (fun h9 => absurd h9 (by decide))
  exact hend H locs ls hS (lv_sub hl [0, 3] rfl)
set_option maxHeartbeats 4000000 in
set_option maxRecDepth 100000 in
theorem law_case_32 {p : Program} {e : Env} {s : State} {m : MethodId} {below : List Frame} {meth : Method} {c : Code} {Q : State → Prop} (l : Launch) {b : Nat} {xs : Nat → Int32} {A : Nat → Prop} {G : va_G} {cy : Nat → ClassId} {sk : Nat → Nat} {H : Heap} {locs : List Loc} {ls : Array Slot} (x : Nat) (lv : Nat) (kp : Nat) (tr_ : Nat) (sh : Nat) (er : Nat) (re : Nat) (fi : Nat) (vo : Nat) (s0 : Nat) (s1 : Nat) (s2 : Nat) (s3 : Nat) (u0 : Nat) (u1 : Nat) (u2 : Nat) (u3 : Nat) (gs : Nat → Option Nat) (mo : Nat) (nw : Nat) (nk : Nat) (na : Nat) (fd : Nat) (ea : Nat) (so : Nat) (nd : Nat) (cd : Nat) (nmd : Nat) (pl : Nat) (tl : Nat) (fr_ : Nat) (rw_ : Nat) (brw : Nat) (po : Nat) (trc : Nat) (wi : Nat) (sz_ : Nat) (nu : Nat) (ca : Nat) (X11 : gs 0 = some s0) (X12 : gs 1 = some s1) (X13 : gs 2 = some s2) (X14 : gs 3 = some s3) : p.tables.exec = Jvm.exec → c.code = code → c.maxLocals = 4 → s.vm.findClass RL = some m.cls → (∀ w ∈ BASE, w.before #[Value.ref b] s = true) → EN G cy sk s → va_X b 6 xs s s.heap → b < s.heap.size → ¬ A b → (∀ q, s.heap.size ≤ q → A q) → va_P G classes [(x, .inr (11, [.ref lv, .ref kp, .ref tr_, .ref sh, .ref er, .ref re, .ref fi, .ref vo, .int 0])), (er, .inl (cy 0, 7, .inl (fun _ => 0))), (sh, .inl (cy 5, 4, .inr (.inr (.inr (.inr gs))))), (s0, .inr (6, [.int 0, .int 0, .ref u0])), (s1, .inr (6, [.int 0, .int 0, .ref u1])), (s2, .inr (6, [.int 0, .int 0, .ref u2])), (s3, .inr (6, [.int 0, .int 0, .ref u3])), (u0, .inl (cy 0, 24, .inl (fun _ => 0))), (u1, .inl (cy 0, 24, .inl (fun _ => 0))), (u2, .inl (cy 0, 24, .inl (fun _ => 0))), (u3, .inl (cy 0, 24, .inl (fun _ => 0))), (mo, .inr (12, [.ref nw, .ref nk, .ref na, .int 0, .ref fd, .ref ea, .ref so, .int (-1), .ref nd, .int 0, .int 0, .int 0, .int 0, .int 0, .int 0, .ref cd, .ref nmd, .ref pl, .ref tl, .ref fr_, .ref rw_, .ref brw, .int 0, .int 0, .ref po, .ref trc, .int 0, .int 0, .int 0, .ref wi, .ref sz_, .ref nu, .ref ca])), (nw, .inl (cy 0, 3567, .inl nw0)), (fd, .inl (cy 0, 7, .inl (fun _ => 0))), (wi, .inl (cy 0, 4, .inl (fun _ => 0))), (sz_, .inl (cy 0, 4, .inl (fun _ => 0))), (nu, .inl (cy 0, 96, .inl (fun _ => 0)))] H → va_D A [(x, .inr (11, [.ref lv, .ref kp, .ref tr_, .ref sh, .ref er, .ref re, .ref fi, .ref vo, .int 0])), (er, .inl (cy 0, 7, .inl (fun _ => 0))), (sh, .inl (cy 5, 4, .inr (.inr (.inr (.inr gs))))), (s0, .inr (6, [.int 0, .int 0, .ref u0])), (s1, .inr (6, [.int 0, .int 0, .ref u1])), (s2, .inr (6, [.int 0, .int 0, .ref u2])), (s3, .inr (6, [.int 0, .int 0, .ref u3])), (u0, .inl (cy 0, 24, .inl (fun _ => 0))), (u1, .inl (cy 0, 24, .inl (fun _ => 0))), (u2, .inl (cy 0, 24, .inl (fun _ => 0))), (u3, .inl (cy 0, 24, .inl (fun _ => 0))), (mo, .inr (12, [.ref nw, .ref nk, .ref na, .int 0, .ref fd, .ref ea, .ref so, .int (-1), .ref nd, .int 0, .int 0, .int 0, .int 0, .int 0, .int 0, .ref cd, .ref nmd, .ref pl, .ref tl, .ref fr_, .ref rw_, .ref brw, .int 0, .int 0, .ref po, .ref trc, .int 0, .int 0, .int 0, .ref wi, .ref sz_, .ref nu, .ref ca])), (nw, .inl (cy 0, 3567, .inl nw0)), (fd, .inl (cy 0, 7, .inl (fun _ => 0))), (wi, .inl (cy 0, 4, .inl (fun _ => 0))), (sz_, .inl (cy 0, 4, .inl (fun _ => 0))), (nu, .inl (cy 0, 96, .inl (fun _ => 0)))] → va_S A s.heap H locs → lv_has ls 4 [(0, .ref b), (1, .ref x), (2, .ref mo), (3, .int 0)] → (∀ (H : Heap) (locs : List Loc) (ls : Array Slot), va_S A s.heap H locs → lv_has ls 4 [(0, .ref b), (3, .int 0)] → W p l e room_1 s m #[Value.ref b] below meth c H locs 222 26621 Q (F0 m 1731 ls [])) → W p l e room_1 s m #[Value.ref b] below meth c H locs 222 26621 Q (F0 m 1464 ls []) := by
  intro hx hb hml hown hts hE hX hbl hbA hA hP hD hS hl hend
  have hP : va_P G classes [(x, .inr (11, [.ref lv, .ref kp, .ref tr_, .ref sh, .ref er, .ref re, .ref fi, .ref vo, .int 0])), (er, .inl (cy 0, 7, .inl (fun _ => 0))), (sh, .inl (cy 5, 4, .inr (.inr (.inr (.inr gs))))), (s0, .inr (6, [.int 0, .int 0, .ref u0])), (s1, .inr (6, [.int 0, .int 0, .ref u1])), (s2, .inr (6, [.int 0, .int 0, .ref u2])), (s3, .inr (6, [.int 0, .int 0, .ref u3])), (u0, .inl (cy 0, 24, .inl (fun _ => 0))), (u1, .inl (cy 0, 24, .inl (fun _ => 0))), (u2, .inl (cy 0, 24, .inl (fun _ => 0))), (u3, .inl (cy 0, 24, .inl (fun _ => 0))), (mo, .inr (12, [.ref nw, .ref nk, .ref na, .int 0, .ref fd, .ref ea, .ref so, .int (-1), .ref nd, .int 0, .int 0, .int 0, .int 0, .int 0, .int 0, .ref cd, .ref nmd, .ref pl, .ref tl, .ref fr_, .ref rw_, .ref brw, .int 0, .int 0, .ref po, .ref trc, .int 0, .int 0, .int 0, .ref wi, .ref sz_, .ref nu, .ref ca])), (nw, .inl (cy 0, 3567, .inl nw0)), (fd, .inl (cy 0, 7, .inl (fun _ => 0))), (wi, .inl (cy 0, 4, .inl (fun _ => 0))), (sz_, .inl (cy 0, 4, .inl (fun _ => 0))), (nu, .inl (cy 0, 96, .inl (fun _ => 0)))] H := hP
  refine lv_aload_n hx hb dL_law_1464 rfl (lv_at hl 1 rfl) ?_
  refine lv_aload_n hx hb dL_law_1465 rfl (lv_at hl 0 rfl) ?_
  refine lv_iload_n hx hb dL_law_1466 rfl (lv_at hl 3 rfl) ?_
  refine lv_iconst (v := 1) hx hb dL_law_1467 (by decide) ?_
  refine lv_iadd hx hb dL_law_1468 ?_
  refine tp (v := 1) (by decide) ?_
  refine va_sld hx hb hX hbl hbA hS (vinL (by decide)) dL_law_1469 ?_
  refine tp (v := (xs 1)) rfl ?_
  refine lv_aload_n hx hb dL_law_1470 rfl (lv_at hl 0 rfl) ?_
  refine lv_iload_n hx hb dL_law_1471 rfl (lv_at hl 3 rfl) ?_
  refine lv_iconst (v := 2) hx hb dL_law_1472 (by decide) ?_
  refine lv_iadd hx hb dL_law_1473 ?_
  refine tp (v := 2) (by decide) ?_
  refine va_sld hx hb hX hbl hbA hS (vinL (by decide)) dL_law_1474 ?_
  refine tp (v := (xs 2)) rfl ?_
  refine lv_aload_n hx hb dL_law_1475 rfl (lv_at hl 0 rfl) ?_
  refine lv_iload_n hx hb dL_law_1476 rfl (lv_at hl 3 rfl) ?_
  refine lv_iconst (v := 3) hx hb dL_law_1477 (by decide) ?_
  refine lv_iadd hx hb dL_law_1478 ?_
  refine tp (v := 3) (by decide) ?_
  refine va_sld hx hb hX hbl hbA hS (vinL (by decide)) dL_law_1479 ?_
  refine tp (v := (xs 3)) rfl ?_
  refine wV (B := (fun _ => True)) (wr := [(mo, .inr (12, [.ref nw, .ref nk, .ref na, .int 0, .ref fd, .ref ea, .ref so, .int (-1), .ref nd, .int 0, .int 0, .int 0, .int 0, .int 0, .int 0, .ref cd, .ref nmd, .ref pl, .ref tl, .ref fr_, .ref rw_, .ref brw, .int 0, .int 0, .ref po, .ref trc, .int 0, .int 0, .int 0, .ref wi, .ref sz_, .ref nu, .ref ca])), (nw, .inl (cy 0, 3567, .inl nw0)), (fd, .inl (cy 0, 7, .inl (fun _ => 0))), (wi, .inl (cy 0, 4, .inl (fun _ => 0))), (sz_, .inl (cy 0, 4, .inl (fun _ => 0))), (nu, .inl (cy 0, 96, .inl (fun _ => 0)))]) (rest := []) hx hb hml hown hts hE (c_X11_sheet l G cy sk H.size x lv kp tr_ sh er re fi vo (fun _ => 0) s0 s1 s2 s3 u0 u1 u2 u3 gs (xs 1) (xs 2) (xs 3) X11 X12 X13 X14) kV_X11_sheet m_1218 rfl rfl ⟨(Nat.le_of_ble_eq_true rfl), (Nat.le_of_ble_eq_true rfl)⟩ hP hD hS hA 0 rfl rfl rfl [0, 1, 2, 3, 4, 5, 6, 7, 8, 9, 10] [11, 12, 13, 14, 15, 16] rfl rfl rfl rfl (by decide) rfl rfl hl.1 (Nat.le_of_ble_eq_true rfl) dL_law_1480 ⟨(Nat.le_of_ble_eq_true rfl), (Nat.le_of_ble_eq_true rfl)⟩ (fun r_1 H locs hr_ haf hS => ?_)
  obtain ⟨-, -, hP, hD⟩ := haf
  have hP : va_P G classes [(mo, .inr (12, [.ref nw, .ref nk, .ref na, .int 0, .ref fd, .ref ea, .ref so, .int (-1), .ref nd, .int 0, .int 0, .int 0, .int 0, .int 0, .int 0, .ref cd, .ref nmd, .ref pl, .ref tl, .ref fr_, .ref rw_, .ref brw, .int 0, .int 0, .ref po, .ref trc, .int 0, .int 0, .int 0, .ref wi, .ref sz_, .ref nu, .ref ca])), (nw, .inl (cy 0, 3567, .inl nw0)), (fd, .inl (cy 0, 7, .inl (fun _ => 0))), (wi, .inl (cy 0, 4, .inl (fun _ => 0))), (sz_, .inl (cy 0, 4, .inl (fun _ => 0))), (nu, .inl (cy 0, 96, .inl (fun _ => 0)))] H := hP
  have hD : va_D A [(mo, .inr (12, [.ref nw, .ref nk, .ref na, .int 0, .ref fd, .ref ea, .ref so, .int (-1), .ref nd, .int 0, .int 0, .int 0, .int 0, .int 0, .int 0, .ref cd, .ref nmd, .ref pl, .ref tl, .ref fr_, .ref rw_, .ref brw, .int 0, .int 0, .ref po, .ref trc, .int 0, .int 0, .int 0, .ref wi, .ref sz_, .ref nu, .ref ca])), (nw, .inl (cy 0, 3567, .inl nw0)), (fd, .inl (cy 0, 7, .inl (fun _ => 0))), (wi, .inl (cy 0, 4, .inl (fun _ => 0))), (sz_, .inl (cy 0, 4, .inl (fun _ => 0))), (nu, .inl (cy 0, 96, .inl (fun _ => 0)))] := hD
  subst hr_
  refine lv_aload_n hx hb dL_law_1483 rfl (lv_at hl 2 rfl) ?_
  refine lv_aload_n hx hb dL_law_1484 rfl (lv_at hl 0 rfl) ?_
  refine lv_iload_n hx hb dL_law_1485 rfl (lv_at hl 3 rfl) ?_
  refine lv_iconst (v := 1) hx hb dL_law_1486 (by decide) ?_
  refine lv_iadd hx hb dL_law_1487 ?_
  refine tp (v := 1) (by decide) ?_
  refine va_sld hx hb hX hbl hbA hS (vinL (by decide)) dL_law_1488 ?_
  refine tp (v := (xs 1)) rfl ?_
  refine lv_aload_n hx hb dL_law_1489 rfl (lv_at hl 0 rfl) ?_
  refine lv_iload_n hx hb dL_law_1490 rfl (lv_at hl 3 rfl) ?_
  refine lv_iconst (v := 2) hx hb dL_law_1491 (by decide) ?_
  refine lv_iadd hx hb dL_law_1492 ?_
  refine tp (v := 2) (by decide) ?_
  refine va_sld hx hb hX hbl hbA hS (vinL (by decide)) dL_law_1493 ?_
  refine tp (v := (xs 2)) rfl ?_
  refine lv_aload_n hx hb dL_law_1494 rfl (lv_at hl 0 rfl) ?_
  refine lv_iload_n hx hb dL_law_1495 rfl (lv_at hl 3 rfl) ?_
  refine lv_iconst (v := 3) hx hb dL_law_1496 (by decide) ?_
  refine lv_iadd hx hb dL_law_1497 ?_
  refine tp (v := 3) (by decide) ?_
  refine va_sld hx hb hX hbl hbA hS (vinL (by decide)) dL_law_1498 ?_
  refine tp (v := (xs 3)) rfl ?_
  refine wV (B := (fun _ => True)) (wr := []) (rest := [.int (F_sheet (xs 1) (xs 2) (xs 3))]) hx hb hml hown hts hE (c_X12_sheet l G cy sk H.size mo nw nk na fd ea so nd cd nmd pl tl fr_ rw_ brw po trc wi sz_ nu ca (fun _ => 0) (xs 1) (xs 2) (xs 3)) kV_X12_sheet m_1827 rfl rfl ⟨(Nat.le_of_ble_eq_true rfl), (Nat.le_of_ble_eq_true rfl)⟩ hP hD hS hA 0 rfl rfl rfl [0, 1, 2, 3, 4, 5] [] rfl rfl rfl rfl (by decide) rfl rfl hl.1 (Nat.le_of_ble_eq_true rfl) dL_law_1499 ⟨(Nat.le_of_ble_eq_true rfl), (Nat.le_of_ble_eq_true rfl)⟩ (fun r_2 H locs hr_ haf hS => ?_)
  obtain ⟨-, -, hP, hD⟩ := haf
  have hP : va_P G classes [] H := hP
  have hD : va_D A [] := hD
  subst hr_
  refine lv_icmp_eq (tgt := 1731) hx hb dL_law_1502 (by decide) (fun _ => ?_) (fun h9 => absurd rfl h9)
  exact hend H locs ls hS (lv_sub hl [0, 3] rfl)
set_option maxHeartbeats 4000000 in
set_option maxRecDepth 100000 in
theorem law_case_33 {p : Program} {e : Env} {s : State} {m : MethodId} {below : List Frame} {meth : Method} {c : Code} {Q : State → Prop} (l : Launch) {b : Nat} {xs : Nat → Int32} {A : Nat → Prop} {G : va_G} {cy : Nat → ClassId} {sk : Nat → Nat} {H : Heap} {locs : List Loc} {ls : Array Slot} (x : Nat) (lv : Nat) (kp : Nat) (tr_ : Nat) (sh : Nat) (er : Nat) (re : Nat) (fi : Nat) (vo : Nat) (s0 : Nat) (s1 : Nat) (s2 : Nat) (s3 : Nat) (u0 : Nat) (u1 : Nat) (u2 : Nat) (u3 : Nat) (gs : Nat → Option Nat) (mo : Nat) (nw : Nat) (nk : Nat) (na : Nat) (fd : Nat) (ea : Nat) (so : Nat) (nd : Nat) (cd : Nat) (nmd : Nat) (pl : Nat) (tl : Nat) (fr_ : Nat) (rw_ : Nat) (brw : Nat) (po : Nat) (trc : Nat) (wi : Nat) (sz_ : Nat) (nu : Nat) (ca : Nat) (X11 : gs 0 = some s0) (X12 : gs 1 = some s1) (X13 : gs 2 = some s2) (X14 : gs 3 = some s3) : p.tables.exec = Jvm.exec → c.code = code → c.maxLocals = 4 → s.vm.findClass RL = some m.cls → (∀ w ∈ BASE, w.before #[Value.ref b] s = true) → EN G cy sk s → va_X b 6 xs s s.heap → b < s.heap.size → ¬ A b → (∀ q, s.heap.size ≤ q → A q) → va_P G classes [(x, .inr (11, [.ref lv, .ref kp, .ref tr_, .ref sh, .ref er, .ref re, .ref fi, .ref vo, .int 0])), (er, .inl (cy 0, 7, .inl (fun _ => 0))), (sh, .inl (cy 5, 4, .inr (.inr (.inr (.inr gs))))), (s0, .inr (6, [.int 0, .int 0, .ref u0])), (s1, .inr (6, [.int 0, .int 0, .ref u1])), (s2, .inr (6, [.int 0, .int 0, .ref u2])), (s3, .inr (6, [.int 0, .int 0, .ref u3])), (mo, .inr (12, [.ref nw, .ref nk, .ref na, .int 0, .ref fd, .ref ea, .ref so, .int (-1), .ref nd, .int 0, .int 0, .int 0, .int 0, .int 0, .int 0, .ref cd, .ref nmd, .ref pl, .ref tl, .ref fr_, .ref rw_, .ref brw, .int 0, .int 0, .ref po, .ref trc, .int 0, .int 0, .int 0, .ref wi, .ref sz_, .ref nu, .ref ca])), (nw, .inl (cy 0, 3567, .inl nw0)), (fd, .inl (cy 0, 7, .inl (fun _ => 0))), (wi, .inl (cy 0, 4, .inl (fun _ => 0)))] H → va_D A [(x, .inr (11, [.ref lv, .ref kp, .ref tr_, .ref sh, .ref er, .ref re, .ref fi, .ref vo, .int 0])), (er, .inl (cy 0, 7, .inl (fun _ => 0))), (sh, .inl (cy 5, 4, .inr (.inr (.inr (.inr gs))))), (s0, .inr (6, [.int 0, .int 0, .ref u0])), (s1, .inr (6, [.int 0, .int 0, .ref u1])), (s2, .inr (6, [.int 0, .int 0, .ref u2])), (s3, .inr (6, [.int 0, .int 0, .ref u3])), (mo, .inr (12, [.ref nw, .ref nk, .ref na, .int 0, .ref fd, .ref ea, .ref so, .int (-1), .ref nd, .int 0, .int 0, .int 0, .int 0, .int 0, .int 0, .ref cd, .ref nmd, .ref pl, .ref tl, .ref fr_, .ref rw_, .ref brw, .int 0, .int 0, .ref po, .ref trc, .int 0, .int 0, .int 0, .ref wi, .ref sz_, .ref nu, .ref ca])), (nw, .inl (cy 0, 3567, .inl nw0)), (fd, .inl (cy 0, 7, .inl (fun _ => 0))), (wi, .inl (cy 0, 4, .inl (fun _ => 0)))] → va_S A s.heap H locs → lv_has ls 4 [(0, .ref b), (1, .ref x), (2, .ref mo), (3, .int 0)] → (∀ (H : Heap) (locs : List Loc) (ls : Array Slot), va_S A s.heap H locs → lv_has ls 4 [(0, .ref b), (3, .int 0)] → W p l e room_1 s m #[Value.ref b] below meth c H locs 222 26621 Q (F0 m 1731 ls [])) → W p l e room_1 s m #[Value.ref b] below meth c H locs 222 26621 Q (F0 m 1507 ls []) := by
  intro hx hb hml hown hts hE hX hbl hbA hA hP hD hS hl hend
  have hP : va_P G classes [(x, .inr (11, [.ref lv, .ref kp, .ref tr_, .ref sh, .ref er, .ref re, .ref fi, .ref vo, .int 0])), (er, .inl (cy 0, 7, .inl (fun _ => 0))), (sh, .inl (cy 5, 4, .inr (.inr (.inr (.inr gs))))), (s0, .inr (6, [.int 0, .int 0, .ref u0])), (s1, .inr (6, [.int 0, .int 0, .ref u1])), (s2, .inr (6, [.int 0, .int 0, .ref u2])), (s3, .inr (6, [.int 0, .int 0, .ref u3])), (mo, .inr (12, [.ref nw, .ref nk, .ref na, .int 0, .ref fd, .ref ea, .ref so, .int (-1), .ref nd, .int 0, .int 0, .int 0, .int 0, .int 0, .int 0, .ref cd, .ref nmd, .ref pl, .ref tl, .ref fr_, .ref rw_, .ref brw, .int 0, .int 0, .ref po, .ref trc, .int 0, .int 0, .int 0, .ref wi, .ref sz_, .ref nu, .ref ca])), (nw, .inl (cy 0, 3567, .inl nw0)), (fd, .inl (cy 0, 7, .inl (fun _ => 0))), (wi, .inl (cy 0, 4, .inl (fun _ => 0)))] H := hP
  refine lv_aload_n hx hb dL_law_1507 rfl (lv_at hl 1 rfl) ?_
  refine lv_aload_n hx hb dL_law_1508 rfl (lv_at hl 0 rfl) ?_
  refine lv_iload_n hx hb dL_law_1509 rfl (lv_at hl 3 rfl) ?_
  refine lv_iconst (v := 1) hx hb dL_law_1510 (by decide) ?_
  refine lv_iadd hx hb dL_law_1511 ?_
  refine tp (v := 1) (by decide) ?_
  refine va_sld hx hb hX hbl hbA hS (vinL (by decide)) dL_law_1512 ?_
  refine tp (v := (xs 1)) rfl ?_
  refine lv_aload_n hx hb dL_law_1513 rfl (lv_at hl 0 rfl) ?_
  refine lv_iload_n hx hb dL_law_1514 rfl (lv_at hl 3 rfl) ?_
  refine lv_iconst (v := 2) hx hb dL_law_1515 (by decide) ?_
  refine lv_iadd hx hb dL_law_1516 ?_
  refine tp (v := 2) (by decide) ?_
  refine va_sld hx hb hX hbl hbA hS (vinL (by decide)) dL_law_1517 ?_
  refine tp (v := (xs 2)) rfl ?_
  refine lv_aload_n hx hb dL_law_1518 rfl (lv_at hl 0 rfl) ?_
  refine lv_iload_n hx hb dL_law_1519 rfl (lv_at hl 3 rfl) ?_
  refine lv_iconst (v := 3) hx hb dL_law_1520 (by decide) ?_
  refine lv_iadd hx hb dL_law_1521 ?_
  refine tp (v := 3) (by decide) ?_
  refine va_sld hx hb hX hbl hbA hS (vinL (by decide)) dL_law_1522 ?_
  refine tp (v := (xs 3)) rfl ?_
  refine wV (B := (fun _ => True)) (wr := [(mo, .inr (12, [.ref nw, .ref nk, .ref na, .int 0, .ref fd, .ref ea, .ref so, .int (-1), .ref nd, .int 0, .int 0, .int 0, .int 0, .int 0, .int 0, .ref cd, .ref nmd, .ref pl, .ref tl, .ref fr_, .ref rw_, .ref brw, .int 0, .int 0, .ref po, .ref trc, .int 0, .int 0, .int 0, .ref wi, .ref sz_, .ref nu, .ref ca])), (nw, .inl (cy 0, 3567, .inl nw0)), (fd, .inl (cy 0, 7, .inl (fun _ => 0))), (wi, .inl (cy 0, 4, .inl (fun _ => 0)))]) (rest := []) hx hb hml hown hts hE (c_X11_put l G cy sk H.size x lv kp tr_ sh er re fi vo (fun _ => 0) s0 s1 s2 s3 u0 u1 u2 u3 gs (xs 1) (xs 2) (xs 3) X11 X12 X13 X14) kV_X11_put m_1232 rfl rfl ⟨(Nat.le_of_ble_eq_true rfl), (Nat.le_of_ble_eq_true rfl)⟩ hP hD hS hA 0 rfl rfl rfl [0, 1, 2, 3, 4, 5, 6] [7, 8, 9, 10] rfl rfl rfl rfl (by decide) rfl rfl hl.1 (Nat.le_of_ble_eq_true rfl) dL_law_1523 ⟨(Nat.le_of_ble_eq_true rfl), (Nat.le_of_ble_eq_true rfl)⟩ (fun r_1 H locs hr_ haf hS => ?_)
  obtain ⟨-, -, hP, hD⟩ := haf
  have hP : va_P G classes [(mo, .inr (12, [.ref nw, .ref nk, .ref na, .int 0, .ref fd, .ref ea, .ref so, .int (-1), .ref nd, .int 0, .int 0, .int 0, .int 0, .int 0, .int 0, .ref cd, .ref nmd, .ref pl, .ref tl, .ref fr_, .ref rw_, .ref brw, .int 0, .int 0, .ref po, .ref trc, .int 0, .int 0, .int 0, .ref wi, .ref sz_, .ref nu, .ref ca])), (nw, .inl (cy 0, 3567, .inl nw0)), (fd, .inl (cy 0, 7, .inl (fun _ => 0))), (wi, .inl (cy 0, 4, .inl (fun _ => 0)))] H := hP
  have hD : va_D A [(mo, .inr (12, [.ref nw, .ref nk, .ref na, .int 0, .ref fd, .ref ea, .ref so, .int (-1), .ref nd, .int 0, .int 0, .int 0, .int 0, .int 0, .int 0, .ref cd, .ref nmd, .ref pl, .ref tl, .ref fr_, .ref rw_, .ref brw, .int 0, .int 0, .ref po, .ref trc, .int 0, .int 0, .int 0, .ref wi, .ref sz_, .ref nu, .ref ca])), (nw, .inl (cy 0, 3567, .inl nw0)), (fd, .inl (cy 0, 7, .inl (fun _ => 0))), (wi, .inl (cy 0, 4, .inl (fun _ => 0)))] := hD
  subst hr_
  refine lv_aload_n hx hb dL_law_1526 rfl (lv_at hl 2 rfl) ?_
  refine lv_aload_n hx hb dL_law_1527 rfl (lv_at hl 0 rfl) ?_
  refine lv_iload_n hx hb dL_law_1528 rfl (lv_at hl 3 rfl) ?_
  refine lv_iconst (v := 1) hx hb dL_law_1529 (by decide) ?_
  refine lv_iadd hx hb dL_law_1530 ?_
  refine tp (v := 1) (by decide) ?_
  refine va_sld hx hb hX hbl hbA hS (vinL (by decide)) dL_law_1531 ?_
  refine tp (v := (xs 1)) rfl ?_
  refine lv_aload_n hx hb dL_law_1532 rfl (lv_at hl 0 rfl) ?_
  refine lv_iload_n hx hb dL_law_1533 rfl (lv_at hl 3 rfl) ?_
  refine lv_iconst (v := 2) hx hb dL_law_1534 (by decide) ?_
  refine lv_iadd hx hb dL_law_1535 ?_
  refine tp (v := 2) (by decide) ?_
  refine va_sld hx hb hX hbl hbA hS (vinL (by decide)) dL_law_1536 ?_
  refine tp (v := (xs 2)) rfl ?_
  refine lv_aload_n hx hb dL_law_1537 rfl (lv_at hl 0 rfl) ?_
  refine lv_iload_n hx hb dL_law_1538 rfl (lv_at hl 3 rfl) ?_
  refine lv_iconst (v := 3) hx hb dL_law_1539 (by decide) ?_
  refine lv_iadd hx hb dL_law_1540 ?_
  refine tp (v := 3) (by decide) ?_
  refine va_sld hx hb hX hbl hbA hS (vinL (by decide)) dL_law_1541 ?_
  refine tp (v := (xs 3)) rfl ?_
  refine wV (B := (fun _ => True)) (wr := []) (rest := [.int (F_put (xs 1))]) hx hb hml hown hts hE (c_X12_put l G cy sk H.size mo nw nk na fd ea so nd cd nmd pl tl fr_ rw_ brw po trc wi sz_ nu ca (fun _ => 0) (xs 1) (xs 2) (xs 3)) kV_X12_put m_1831 rfl rfl ⟨(Nat.le_of_ble_eq_true rfl), (Nat.le_of_ble_eq_true rfl)⟩ hP hD hS hA 0 rfl rfl rfl [0, 1, 2, 3] [] rfl rfl rfl rfl (by decide) rfl rfl hl.1 (Nat.le_of_ble_eq_true rfl) dL_law_1542 ⟨(Nat.le_of_ble_eq_true rfl), (Nat.le_of_ble_eq_true rfl)⟩ (fun r_2 H locs hr_ haf hS => ?_)
  obtain ⟨-, -, hP, hD⟩ := haf
  have hP : va_P G classes [] H := hP
  have hD : va_D A [] := hD
  subst hr_
  refine lv_icmp_eq (tgt := 1731) hx hb dL_law_1545 (by decide) (fun _ => ?_) (fun h9 => absurd rfl h9)
  exact hend H locs ls hS (lv_sub hl [0, 3] rfl)
set_option maxHeartbeats 4000000 in
set_option maxRecDepth 100000 in
theorem law_case_34 {p : Program} {e : Env} {s : State} {m : MethodId} {below : List Frame} {meth : Method} {c : Code} {Q : State → Prop} (l : Launch) {b : Nat} {xs : Nat → Int32} {A : Nat → Prop} {G : va_G} {cy : Nat → ClassId} {sk : Nat → Nat} {H : Heap} {locs : List Loc} {ls : Array Slot} (x : Nat) (lv : Nat) (kp : Nat) (tr_ : Nat) (sh : Nat) (er : Nat) (re : Nat) (fi : Nat) (vo : Nat) (s0 : Nat) (s1 : Nat) (s2 : Nat) (s3 : Nat) (u0 : Nat) (u1 : Nat) (u2 : Nat) (u3 : Nat) (gs : Nat → Option Nat) (mo : Nat) (nw : Nat) (nk : Nat) (na : Nat) (fd : Nat) (ea : Nat) (so : Nat) (nd : Nat) (cd : Nat) (nmd : Nat) (pl : Nat) (tl : Nat) (fr_ : Nat) (rw_ : Nat) (brw : Nat) (po : Nat) (trc : Nat) (wi : Nat) (sz_ : Nat) (nu : Nat) (ca : Nat) (X11 : gs 0 = some s0) (X12 : gs 1 = some s1) (X13 : gs 2 = some s2) (X14 : gs 3 = some s3) : p.tables.exec = Jvm.exec → c.code = code → c.maxLocals = 4 → s.vm.findClass RL = some m.cls → (∀ w ∈ BASE, w.before #[Value.ref b] s = true) → EN G cy sk s → va_X b 6 xs s s.heap → b < s.heap.size → ¬ A b → (∀ q, s.heap.size ≤ q → A q) → va_P G classes [(x, .inr (11, [.ref lv, .ref kp, .ref tr_, .ref sh, .ref er, .ref re, .ref fi, .ref vo, .int 0])), (er, .inl (cy 0, 7, .inl (fun _ => 0))), (sh, .inl (cy 5, 4, .inr (.inr (.inr (.inr gs))))), (s0, .inr (6, [.int 0, .int 0, .ref u0])), (s1, .inr (6, [.int 0, .int 0, .ref u1])), (s2, .inr (6, [.int 0, .int 0, .ref u2])), (s3, .inr (6, [.int 0, .int 0, .ref u3])), (mo, .inr (12, [.ref nw, .ref nk, .ref na, .int 0, .ref fd, .ref ea, .ref so, .int (-1), .ref nd, .int 0, .int 0, .int 0, .int 0, .int 0, .int 0, .ref cd, .ref nmd, .ref pl, .ref tl, .ref fr_, .ref rw_, .ref brw, .int 0, .int 0, .ref po, .ref trc, .int 0, .int 0, .int 0, .ref wi, .ref sz_, .ref nu, .ref ca])), (nw, .inl (cy 0, 3567, .inl nw0)), (fd, .inl (cy 0, 7, .inl (fun _ => 0))), (wi, .inl (cy 0, 4, .inl (fun _ => 0)))] H → va_D A [(x, .inr (11, [.ref lv, .ref kp, .ref tr_, .ref sh, .ref er, .ref re, .ref fi, .ref vo, .int 0])), (er, .inl (cy 0, 7, .inl (fun _ => 0))), (sh, .inl (cy 5, 4, .inr (.inr (.inr (.inr gs))))), (s0, .inr (6, [.int 0, .int 0, .ref u0])), (s1, .inr (6, [.int 0, .int 0, .ref u1])), (s2, .inr (6, [.int 0, .int 0, .ref u2])), (s3, .inr (6, [.int 0, .int 0, .ref u3])), (mo, .inr (12, [.ref nw, .ref nk, .ref na, .int 0, .ref fd, .ref ea, .ref so, .int (-1), .ref nd, .int 0, .int 0, .int 0, .int 0, .int 0, .int 0, .ref cd, .ref nmd, .ref pl, .ref tl, .ref fr_, .ref rw_, .ref brw, .int 0, .int 0, .ref po, .ref trc, .int 0, .int 0, .int 0, .ref wi, .ref sz_, .ref nu, .ref ca])), (nw, .inl (cy 0, 3567, .inl nw0)), (fd, .inl (cy 0, 7, .inl (fun _ => 0))), (wi, .inl (cy 0, 4, .inl (fun _ => 0)))] → va_S A s.heap H locs → lv_has ls 4 [(0, .ref b), (1, .ref x), (2, .ref mo), (3, .int 0)] → (∀ (H : Heap) (locs : List Loc) (ls : Array Slot), va_S A s.heap H locs → lv_has ls 4 [(0, .ref b), (3, .int 0)] → W p l e room_1 s m #[Value.ref b] below meth c H locs 222 26621 Q (F0 m 1731 ls [])) → W p l e room_1 s m #[Value.ref b] below meth c H locs 222 26621 Q (F0 m 1550 ls []) := by
  intro hx hb hml hown hts hE hX hbl hbA hA hP hD hS hl hend
  have hP : va_P G classes [(x, .inr (11, [.ref lv, .ref kp, .ref tr_, .ref sh, .ref er, .ref re, .ref fi, .ref vo, .int 0])), (er, .inl (cy 0, 7, .inl (fun _ => 0))), (sh, .inl (cy 5, 4, .inr (.inr (.inr (.inr gs))))), (s0, .inr (6, [.int 0, .int 0, .ref u0])), (s1, .inr (6, [.int 0, .int 0, .ref u1])), (s2, .inr (6, [.int 0, .int 0, .ref u2])), (s3, .inr (6, [.int 0, .int 0, .ref u3])), (mo, .inr (12, [.ref nw, .ref nk, .ref na, .int 0, .ref fd, .ref ea, .ref so, .int (-1), .ref nd, .int 0, .int 0, .int 0, .int 0, .int 0, .int 0, .ref cd, .ref nmd, .ref pl, .ref tl, .ref fr_, .ref rw_, .ref brw, .int 0, .int 0, .ref po, .ref trc, .int 0, .int 0, .int 0, .ref wi, .ref sz_, .ref nu, .ref ca])), (nw, .inl (cy 0, 3567, .inl nw0)), (fd, .inl (cy 0, 7, .inl (fun _ => 0))), (wi, .inl (cy 0, 4, .inl (fun _ => 0)))] H := hP
  refine lv_aload_n hx hb dL_law_1550 rfl (lv_at hl 1 rfl) ?_
  refine lv_aload_n hx hb dL_law_1551 rfl (lv_at hl 0 rfl) ?_
  refine lv_iload_n hx hb dL_law_1552 rfl (lv_at hl 3 rfl) ?_
  refine lv_iconst (v := 1) hx hb dL_law_1553 (by decide) ?_
  refine lv_iadd hx hb dL_law_1554 ?_
  refine tp (v := 1) (by decide) ?_
  refine va_sld hx hb hX hbl hbA hS (vinL (by decide)) dL_law_1555 ?_
  refine tp (v := (xs 1)) rfl ?_
  refine lv_aload_n hx hb dL_law_1556 rfl (lv_at hl 0 rfl) ?_
  refine lv_iload_n hx hb dL_law_1557 rfl (lv_at hl 3 rfl) ?_
  refine lv_iconst (v := 2) hx hb dL_law_1558 (by decide) ?_
  refine lv_iadd hx hb dL_law_1559 ?_
  refine tp (v := 2) (by decide) ?_
  refine va_sld hx hb hX hbl hbA hS (vinL (by decide)) dL_law_1560 ?_
  refine tp (v := (xs 2)) rfl ?_
  refine lv_aload_n hx hb dL_law_1561 rfl (lv_at hl 0 rfl) ?_
  refine lv_iload_n hx hb dL_law_1562 rfl (lv_at hl 3 rfl) ?_
  refine lv_iconst (v := 3) hx hb dL_law_1563 (by decide) ?_
  refine lv_iadd hx hb dL_law_1564 ?_
  refine tp (v := 3) (by decide) ?_
  refine va_sld hx hb hX hbl hbA hS (vinL (by decide)) dL_law_1565 ?_
  refine tp (v := (xs 3)) rfl ?_
  refine lv_aload_n hx hb dL_law_1566 rfl (lv_at hl 0 rfl) ?_
  refine lv_iload_n hx hb dL_law_1567 rfl (lv_at hl 3 rfl) ?_
  refine lv_iconst (v := 4) hx hb dL_law_1568 (by decide) ?_
  refine lv_iadd hx hb dL_law_1569 ?_
  refine tp (v := 4) (by decide) ?_
  refine va_sld hx hb hX hbl hbA hS (vinL (by decide)) dL_law_1570 ?_
  refine tp (v := (xs 4)) rfl ?_
  refine lv_aload_n hx hb dL_law_1571 rfl (lv_at hl 0 rfl) ?_
  refine lv_iload_n hx hb dL_law_1572 rfl (lv_at hl 3 rfl) ?_
  refine lv_iconst (v := 5) hx hb dL_law_1573 (by decide) ?_
  refine lv_iadd hx hb dL_law_1574 ?_
  refine tp (v := 5) (by decide) ?_
  refine va_sld hx hb hX hbl hbA hS (vinL (by decide)) dL_law_1575 ?_
  refine tp (v := (xs 5)) rfl ?_
  refine wV (B := (fun _ => True)) (wr := [(mo, .inr (12, [.ref nw, .ref nk, .ref na, .int 0, .ref fd, .ref ea, .ref so, .int (-1), .ref nd, .int 0, .int 0, .int 0, .int 0, .int 0, .int 0, .ref cd, .ref nmd, .ref pl, .ref tl, .ref fr_, .ref rw_, .ref brw, .int 0, .int 0, .ref po, .ref trc, .int 0, .int 0, .int 0, .ref wi, .ref sz_, .ref nu, .ref ca])), (nw, .inl (cy 0, 3567, .inl nw0)), (fd, .inl (cy 0, 7, .inl (fun _ => 0))), (wi, .inl (cy 0, 4, .inl (fun _ => 0)))]) (rest := []) hx hb hml hown hts hE (c_X11_move l G cy sk H.size x lv kp tr_ sh er re fi vo (fun _ => 0) s0 s1 s2 s3 u0 u1 u2 u3 gs (xs 1) (xs 2) (xs 3) (xs 4) (xs 5) X11 X12 X13 X14) kV_X11_move m_1241 rfl rfl ⟨(Nat.le_of_ble_eq_true rfl), (Nat.le_of_ble_eq_true rfl)⟩ hP hD hS hA 0 rfl rfl rfl [0, 1, 2, 3, 4, 5, 6] [7, 8, 9, 10] rfl rfl rfl rfl (by decide) rfl rfl hl.1 (Nat.le_of_ble_eq_true rfl) dL_law_1576 ⟨(Nat.le_of_ble_eq_true rfl), (Nat.le_of_ble_eq_true rfl)⟩ (fun r_1 H locs hr_ haf hS => ?_)
  obtain ⟨-, -, hP, hD⟩ := haf
  have hP : va_P G classes [(mo, .inr (12, [.ref nw, .ref nk, .ref na, .int 0, .ref fd, .ref ea, .ref so, .int (-1), .ref nd, .int 0, .int 0, .int 0, .int 0, .int 0, .int 0, .ref cd, .ref nmd, .ref pl, .ref tl, .ref fr_, .ref rw_, .ref brw, .int 0, .int 0, .ref po, .ref trc, .int 0, .int 0, .int 0, .ref wi, .ref sz_, .ref nu, .ref ca])), (nw, .inl (cy 0, 3567, .inl nw0)), (fd, .inl (cy 0, 7, .inl (fun _ => 0))), (wi, .inl (cy 0, 4, .inl (fun _ => 0)))] H := hP
  have hD : va_D A [(mo, .inr (12, [.ref nw, .ref nk, .ref na, .int 0, .ref fd, .ref ea, .ref so, .int (-1), .ref nd, .int 0, .int 0, .int 0, .int 0, .int 0, .int 0, .ref cd, .ref nmd, .ref pl, .ref tl, .ref fr_, .ref rw_, .ref brw, .int 0, .int 0, .ref po, .ref trc, .int 0, .int 0, .int 0, .ref wi, .ref sz_, .ref nu, .ref ca])), (nw, .inl (cy 0, 3567, .inl nw0)), (fd, .inl (cy 0, 7, .inl (fun _ => 0))), (wi, .inl (cy 0, 4, .inl (fun _ => 0)))] := hD
  subst hr_
  refine lv_aload_n hx hb dL_law_1579 rfl (lv_at hl 2 rfl) ?_
  refine lv_aload_n hx hb dL_law_1580 rfl (lv_at hl 0 rfl) ?_
  refine lv_iload_n hx hb dL_law_1581 rfl (lv_at hl 3 rfl) ?_
  refine lv_iconst (v := 1) hx hb dL_law_1582 (by decide) ?_
  refine lv_iadd hx hb dL_law_1583 ?_
  refine tp (v := 1) (by decide) ?_
  refine va_sld hx hb hX hbl hbA hS (vinL (by decide)) dL_law_1584 ?_
  refine tp (v := (xs 1)) rfl ?_
  refine lv_aload_n hx hb dL_law_1585 rfl (lv_at hl 0 rfl) ?_
  refine lv_iload_n hx hb dL_law_1586 rfl (lv_at hl 3 rfl) ?_
  refine lv_iconst (v := 2) hx hb dL_law_1587 (by decide) ?_
  refine lv_iadd hx hb dL_law_1588 ?_
  refine tp (v := 2) (by decide) ?_
  refine va_sld hx hb hX hbl hbA hS (vinL (by decide)) dL_law_1589 ?_
  refine tp (v := (xs 2)) rfl ?_
  refine lv_aload_n hx hb dL_law_1590 rfl (lv_at hl 0 rfl) ?_
  refine lv_iload_n hx hb dL_law_1591 rfl (lv_at hl 3 rfl) ?_
  refine lv_iconst (v := 3) hx hb dL_law_1592 (by decide) ?_
  refine lv_iadd hx hb dL_law_1593 ?_
  refine tp (v := 3) (by decide) ?_
  refine va_sld hx hb hX hbl hbA hS (vinL (by decide)) dL_law_1594 ?_
  refine tp (v := (xs 3)) rfl ?_
  refine lv_aload_n hx hb dL_law_1595 rfl (lv_at hl 0 rfl) ?_
  refine lv_iload_n hx hb dL_law_1596 rfl (lv_at hl 3 rfl) ?_
  refine lv_iconst (v := 4) hx hb dL_law_1597 (by decide) ?_
  refine lv_iadd hx hb dL_law_1598 ?_
  refine tp (v := 4) (by decide) ?_
  refine va_sld hx hb hX hbl hbA hS (vinL (by decide)) dL_law_1599 ?_
  refine tp (v := (xs 4)) rfl ?_
  refine lv_aload_n hx hb dL_law_1600 rfl (lv_at hl 0 rfl) ?_
  refine lv_iload_n hx hb dL_law_1601 rfl (lv_at hl 3 rfl) ?_
  refine lv_iconst (v := 5) hx hb dL_law_1602 (by decide) ?_
  refine lv_iadd hx hb dL_law_1603 ?_
  refine tp (v := 5) (by decide) ?_
  refine va_sld hx hb hX hbl hbA hS (vinL (by decide)) dL_law_1604 ?_
  refine tp (v := (xs 5)) rfl ?_
  refine wV (B := (fun _ => True)) (wr := []) (rest := [.int (F_move (xs 1) (xs 3))]) hx hb hml hown hts hE (c_X12_move l G cy sk H.size mo nw nk na fd ea so nd cd nmd pl tl fr_ rw_ brw po trc wi sz_ nu ca (fun _ => 0) (xs 1) (xs 2) (xs 3) (xs 4) (xs 5)) kV_X12_move m_1835 rfl rfl ⟨(Nat.le_of_ble_eq_true rfl), (Nat.le_of_ble_eq_true rfl)⟩ hP hD hS hA 0 rfl rfl rfl [0, 1, 2, 3] [] rfl rfl rfl rfl (by decide) rfl rfl hl.1 (Nat.le_of_ble_eq_true rfl) dL_law_1605 ⟨(Nat.le_of_ble_eq_true rfl), (Nat.le_of_ble_eq_true rfl)⟩ (fun r_2 H locs hr_ haf hS => ?_)
  obtain ⟨-, -, hP, hD⟩ := haf
  have hP : va_P G classes [] H := hP
  have hD : va_D A [] := hD
  subst hr_
  refine lv_icmp_eq (tgt := 1731) hx hb dL_law_1608 (by decide) (fun _ => ?_) (fun h9 => absurd rfl h9)
  exact hend H locs ls hS (lv_sub hl [0, 3] rfl)
set_option maxHeartbeats 4000000 in
set_option maxRecDepth 100000 in
theorem law_case_35 {p : Program} {e : Env} {s : State} {m : MethodId} {below : List Frame} {meth : Method} {c : Code} {Q : State → Prop} (l : Launch) {b : Nat} {xs : Nat → Int32} {A : Nat → Prop} {G : va_G} {cy : Nat → ClassId} {sk : Nat → Nat} {H : Heap} {locs : List Loc} {ls : Array Slot} (x : Nat) (lv : Nat) (kp : Nat) (tr_ : Nat) (sh : Nat) (er : Nat) (re : Nat) (fi : Nat) (vo : Nat) (st : Nat) (oc : Nat) (ki : Nat) (ce : Nat) (si : Nat) (sp : Nat) (la : Nat) (ld : Nat) (sr : Nat) (tx : Nat) (vl : Nat) (f0 : Nat) (f1 : Nat) (f2 : Nat) (c0 : Nat) (c1 : Nat) (c2 : Nat) (k0 : Nat) (k1 : Nat) (k2 : Nat) (le : Nat) (te : Nat) (ne : Nat) (mi : Nat) (tr : Nat) (be : Nat) (ta : Nat) (rta : Nat) (wa : Nat) (rwa : Nat) (wk : Nat) (foc : Nat → Int32) (fl : Nat → Int32) (gt : Nat → Option Nat) (kst : Nat) (koc : Nat) (kki : Nat) (kce : Nat) (ksi : Nat) (ksp : Nat) (kla : Nat) (kld : Nat) (ksr : Nat) (ktx : Nat) (kvl : Nat) (kf0 : Nat) (kf1 : Nat) (kf2 : Nat) (kc0 : Nat) (kc1 : Nat) (kc2 : Nat) (kk0 : Nat) (kk1 : Nat) (kk2 : Nat) (kle : Nat) (kte : Nat) (kne : Nat) (kmi : Nat) (ktr : Nat) (kbe : Nat) (kta : Nat) (krta : Nat) (kwa : Nat) (krwa : Nat) (kwk : Nat) (kfoc : Nat → Int32) (kfl : Nat → Int32) (kgt : Nat → Option Nat) (mo : Nat) (nw : Nat) (nk : Nat) (na : Nat) (fd : Nat) (ea : Nat) (so : Nat) (nd : Nat) (cd : Nat) (nmd : Nat) (pl : Nat) (tl : Nat) (fr_ : Nat) (rw_ : Nat) (brw : Nat) (po : Nat) (trc : Nat) (wi : Nat) (sz_ : Nat) (nu : Nat) (ca : Nat) (X0 : ∀ j, j < 192 → foc j = (-1)) (X1 : ∀ j, j < 5 → fl j = 50) (X2 : gt 0 = some f0) (X3 : gt 1 = some f1) (X4 : gt 2 = some f2) (X6 : ∀ j, j < 192 → kfoc j = (-1)) (X7 : ∀ j, j < 5 → kfl j = 50) (X8 : kgt 0 = some kf0) (X9 : kgt 1 = some kf1) (X10 : kgt 2 = some kf2) : p.tables.exec = Jvm.exec → c.code = code → c.maxLocals = 4 → s.vm.findClass RL = some m.cls → (∀ w ∈ BASE, w.before #[Value.ref b] s = true) → EN G cy sk s → va_X b 6 xs s s.heap → b < s.heap.size → ¬ A b → (∀ q, s.heap.size ≤ q → A q) → va_P G classes [(x, .inr (11, [.ref lv, .ref kp, .ref tr_, .ref sh, .ref er, .ref re, .ref fi, .ref vo, .int 0])), (er, .inl (cy 0, 7, .inl (fun _ => 0))), (lv, .inr (10, [.ref st, .ref la, .ref le, .ref ta, .ref wa, .ref wk, .int 0, .int 0])), (st, .inr (7, [.ref oc, .ref ki, .ref ce, .ref si, .ref sp, .int 0])), (oc, .inl (cy 0, 192, .inl foc)), (ki, .inl (cy 0, 40, .inl (fun _ => 0))), (ce, .inl (cy 0, 40, .inl (fun _ => 0))), (si, .inl (cy 0, 40, .inl (fun _ => 0))), (sp, .inl (cy 0, 40, .inl (fun _ => 0))), (la, .inr (2, [.int 5, .int 9, .int 0, .ref ld, .ref sr, .ref tx, .ref vl])), (ld, .inl (cy 0, 5, .inl fl)), (sr, .inl (cy 0, 5, .inl (fun _ => 0))), (tx, .inl (cy 3, 3, .inr (.inr (.inr (.inr gt))))), (f0, .inr (1, [.ref c0, .ref k0, .int 0])), (c0, .inl (cy 0, 48, .inl (fun _ => 0))), (f1, .inr (1, [.ref c1, .ref k1, .int 0])), (c1, .inl (cy 0, 48, .inl (fun _ => 0))), (f2, .inr (1, [.ref c2, .ref k2, .int 0])), (c2, .inl (cy 0, 48, .inl (fun _ => 0))), (le, .inr (3, [.ref te, .ref ne, .ref mi, .int 0, .ref tr, .ref be, .int 0, .int 0, .int 0])), (te, .inl (cy 0, 7, .inl (fun _ => 0))), (ne, .inl (cy 0, 7, .inl (fun _ => 0))), (mi, .inl (cy 0, 7, .inl (fun _ => 0))), (ta, .inr (5, [.ref rta, .int 0])), (rta, .inl (cy 0, 48, .inl (fun _ => 0))), (wa, .inr (5, [.ref rwa, .int 0])), (rwa, .inl (cy 0, 24, .inl (fun _ => 0))), (kp, .inr (10, [.ref kst, .ref kla, .ref kle, .ref kta, .ref kwa, .ref kwk, .int 0, .int 0])), (kst, .inr (7, [.ref koc, .ref kki, .ref kce, .ref ksi, .ref ksp, .int 0])), (koc, .inl (cy 0, 192, .inl kfoc)), (kki, .inl (cy 0, 40, .inl (fun _ => 0))), (kce, .inl (cy 0, 40, .inl (fun _ => 0))), (ksi, .inl (cy 0, 40, .inl (fun _ => 0))), (ksp, .inl (cy 0, 40, .inl (fun _ => 0))), (kla, .inr (2, [.int 5, .int 9, .int 0, .ref kld, .ref ksr, .ref ktx, .ref kvl])), (kld, .inl (cy 0, 5, .inl kfl)), (ksr, .inl (cy 0, 5, .inl (fun _ => 0))), (ktx, .inl (cy 3, 3, .inr (.inr (.inr (.inr kgt))))), (kf0, .inr (1, [.ref kc0, .ref kk0, .int 0])), (kc0, .inl (cy 0, 48, .inl (fun _ => 0))), (kf1, .inr (1, [.ref kc1, .ref kk1, .int 0])), (kc1, .inl (cy 0, 48, .inl (fun _ => 0))), (kf2, .inr (1, [.ref kc2, .ref kk2, .int 0])), (kc2, .inl (cy 0, 48, .inl (fun _ => 0))), (kle, .inr (3, [.ref kte, .ref kne, .ref kmi, .int 0, .ref ktr, .ref kbe, .int 0, .int 0, .int 0])), (kte, .inl (cy 0, 7, .inl (fun _ => 0))), (kne, .inl (cy 0, 7, .inl (fun _ => 0))), (kmi, .inl (cy 0, 7, .inl (fun _ => 0))), (kta, .inr (5, [.ref krta, .int 0])), (krta, .inl (cy 0, 48, .inl (fun _ => 0))), (kwa, .inr (5, [.ref krwa, .int 0])), (krwa, .inl (cy 0, 24, .inl (fun _ => 0))), (mo, .inr (12, [.ref nw, .ref nk, .ref na, .int 0, .ref fd, .ref ea, .ref so, .int (-1), .ref nd, .int 0, .int 0, .int 0, .int 0, .int 0, .int 0, .ref cd, .ref nmd, .ref pl, .ref tl, .ref fr_, .ref rw_, .ref brw, .int 0, .int 0, .ref po, .ref trc, .int 0, .int 0, .int 0, .ref wi, .ref sz_, .ref nu, .ref ca])), (nw, .inl (cy 0, 3567, .inl nw0)), (nk, .inl (cy 0, 3567, .inl (fun _ => 0))), (fd, .inl (cy 0, 7, .inl (fun _ => 0)))] H → va_D A [(x, .inr (11, [.ref lv, .ref kp, .ref tr_, .ref sh, .ref er, .ref re, .ref fi, .ref vo, .int 0])), (er, .inl (cy 0, 7, .inl (fun _ => 0))), (lv, .inr (10, [.ref st, .ref la, .ref le, .ref ta, .ref wa, .ref wk, .int 0, .int 0])), (st, .inr (7, [.ref oc, .ref ki, .ref ce, .ref si, .ref sp, .int 0])), (oc, .inl (cy 0, 192, .inl foc)), (ki, .inl (cy 0, 40, .inl (fun _ => 0))), (ce, .inl (cy 0, 40, .inl (fun _ => 0))), (si, .inl (cy 0, 40, .inl (fun _ => 0))), (sp, .inl (cy 0, 40, .inl (fun _ => 0))), (la, .inr (2, [.int 5, .int 9, .int 0, .ref ld, .ref sr, .ref tx, .ref vl])), (ld, .inl (cy 0, 5, .inl fl)), (sr, .inl (cy 0, 5, .inl (fun _ => 0))), (tx, .inl (cy 3, 3, .inr (.inr (.inr (.inr gt))))), (f0, .inr (1, [.ref c0, .ref k0, .int 0])), (c0, .inl (cy 0, 48, .inl (fun _ => 0))), (f1, .inr (1, [.ref c1, .ref k1, .int 0])), (c1, .inl (cy 0, 48, .inl (fun _ => 0))), (f2, .inr (1, [.ref c2, .ref k2, .int 0])), (c2, .inl (cy 0, 48, .inl (fun _ => 0))), (le, .inr (3, [.ref te, .ref ne, .ref mi, .int 0, .ref tr, .ref be, .int 0, .int 0, .int 0])), (te, .inl (cy 0, 7, .inl (fun _ => 0))), (ne, .inl (cy 0, 7, .inl (fun _ => 0))), (mi, .inl (cy 0, 7, .inl (fun _ => 0))), (ta, .inr (5, [.ref rta, .int 0])), (rta, .inl (cy 0, 48, .inl (fun _ => 0))), (wa, .inr (5, [.ref rwa, .int 0])), (rwa, .inl (cy 0, 24, .inl (fun _ => 0))), (kp, .inr (10, [.ref kst, .ref kla, .ref kle, .ref kta, .ref kwa, .ref kwk, .int 0, .int 0])), (kst, .inr (7, [.ref koc, .ref kki, .ref kce, .ref ksi, .ref ksp, .int 0])), (koc, .inl (cy 0, 192, .inl kfoc)), (kki, .inl (cy 0, 40, .inl (fun _ => 0))), (kce, .inl (cy 0, 40, .inl (fun _ => 0))), (ksi, .inl (cy 0, 40, .inl (fun _ => 0))), (ksp, .inl (cy 0, 40, .inl (fun _ => 0))), (kla, .inr (2, [.int 5, .int 9, .int 0, .ref kld, .ref ksr, .ref ktx, .ref kvl])), (kld, .inl (cy 0, 5, .inl kfl)), (ksr, .inl (cy 0, 5, .inl (fun _ => 0))), (ktx, .inl (cy 3, 3, .inr (.inr (.inr (.inr kgt))))), (kf0, .inr (1, [.ref kc0, .ref kk0, .int 0])), (kc0, .inl (cy 0, 48, .inl (fun _ => 0))), (kf1, .inr (1, [.ref kc1, .ref kk1, .int 0])), (kc1, .inl (cy 0, 48, .inl (fun _ => 0))), (kf2, .inr (1, [.ref kc2, .ref kk2, .int 0])), (kc2, .inl (cy 0, 48, .inl (fun _ => 0))), (kle, .inr (3, [.ref kte, .ref kne, .ref kmi, .int 0, .ref ktr, .ref kbe, .int 0, .int 0, .int 0])), (kte, .inl (cy 0, 7, .inl (fun _ => 0))), (kne, .inl (cy 0, 7, .inl (fun _ => 0))), (kmi, .inl (cy 0, 7, .inl (fun _ => 0))), (kta, .inr (5, [.ref krta, .int 0])), (krta, .inl (cy 0, 48, .inl (fun _ => 0))), (kwa, .inr (5, [.ref krwa, .int 0])), (krwa, .inl (cy 0, 24, .inl (fun _ => 0))), (mo, .inr (12, [.ref nw, .ref nk, .ref na, .int 0, .ref fd, .ref ea, .ref so, .int (-1), .ref nd, .int 0, .int 0, .int 0, .int 0, .int 0, .int 0, .ref cd, .ref nmd, .ref pl, .ref tl, .ref fr_, .ref rw_, .ref brw, .int 0, .int 0, .ref po, .ref trc, .int 0, .int 0, .int 0, .ref wi, .ref sz_, .ref nu, .ref ca])), (nw, .inl (cy 0, 3567, .inl nw0)), (nk, .inl (cy 0, 3567, .inl (fun _ => 0))), (fd, .inl (cy 0, 7, .inl (fun _ => 0)))] → va_S A s.heap H locs → lv_has ls 4 [(0, .ref b), (1, .ref x), (2, .ref mo), (3, .int 0)] → (∀ (H : Heap) (locs : List Loc) (ls : Array Slot), va_S A s.heap H locs → lv_has ls 4 [(0, .ref b), (3, .int 0)] → W p l e room_1 s m #[Value.ref b] below meth c H locs 222 26621 Q (F0 m 1731 ls [])) → W p l e room_1 s m #[Value.ref b] below meth c H locs 222 26621 Q (F0 m 1613 ls []) := by
  intro hx hb hml hown hts hE hX hbl hbA hA hP hD hS hl hend
  have hP : va_P G classes [(x, .inr (11, [.ref lv, .ref kp, .ref tr_, .ref sh, .ref er, .ref re, .ref fi, .ref vo, .int 0])), (er, .inl (cy 0, 7, .inl (fun _ => 0))), (lv, .inr (10, [.ref st, .ref la, .ref le, .ref ta, .ref wa, .ref wk, .int 0, .int 0])), (st, .inr (7, [.ref oc, .ref ki, .ref ce, .ref si, .ref sp, .int 0])), (oc, .inl (cy 0, 192, .inl foc)), (ki, .inl (cy 0, 40, .inl (fun _ => 0))), (ce, .inl (cy 0, 40, .inl (fun _ => 0))), (si, .inl (cy 0, 40, .inl (fun _ => 0))), (sp, .inl (cy 0, 40, .inl (fun _ => 0))), (la, .inr (2, [.int 5, .int 9, .int 0, .ref ld, .ref sr, .ref tx, .ref vl])), (ld, .inl (cy 0, 5, .inl fl)), (sr, .inl (cy 0, 5, .inl (fun _ => 0))), (tx, .inl (cy 3, 3, .inr (.inr (.inr (.inr gt))))), (f0, .inr (1, [.ref c0, .ref k0, .int 0])), (c0, .inl (cy 0, 48, .inl (fun _ => 0))), (f1, .inr (1, [.ref c1, .ref k1, .int 0])), (c1, .inl (cy 0, 48, .inl (fun _ => 0))), (f2, .inr (1, [.ref c2, .ref k2, .int 0])), (c2, .inl (cy 0, 48, .inl (fun _ => 0))), (le, .inr (3, [.ref te, .ref ne, .ref mi, .int 0, .ref tr, .ref be, .int 0, .int 0, .int 0])), (te, .inl (cy 0, 7, .inl (fun _ => 0))), (ne, .inl (cy 0, 7, .inl (fun _ => 0))), (mi, .inl (cy 0, 7, .inl (fun _ => 0))), (ta, .inr (5, [.ref rta, .int 0])), (rta, .inl (cy 0, 48, .inl (fun _ => 0))), (wa, .inr (5, [.ref rwa, .int 0])), (rwa, .inl (cy 0, 24, .inl (fun _ => 0))), (kp, .inr (10, [.ref kst, .ref kla, .ref kle, .ref kta, .ref kwa, .ref kwk, .int 0, .int 0])), (kst, .inr (7, [.ref koc, .ref kki, .ref kce, .ref ksi, .ref ksp, .int 0])), (koc, .inl (cy 0, 192, .inl kfoc)), (kki, .inl (cy 0, 40, .inl (fun _ => 0))), (kce, .inl (cy 0, 40, .inl (fun _ => 0))), (ksi, .inl (cy 0, 40, .inl (fun _ => 0))), (ksp, .inl (cy 0, 40, .inl (fun _ => 0))), (kla, .inr (2, [.int 5, .int 9, .int 0, .ref kld, .ref ksr, .ref ktx, .ref kvl])), (kld, .inl (cy 0, 5, .inl kfl)), (ksr, .inl (cy 0, 5, .inl (fun _ => 0))), (ktx, .inl (cy 3, 3, .inr (.inr (.inr (.inr kgt))))), (kf0, .inr (1, [.ref kc0, .ref kk0, .int 0])), (kc0, .inl (cy 0, 48, .inl (fun _ => 0))), (kf1, .inr (1, [.ref kc1, .ref kk1, .int 0])), (kc1, .inl (cy 0, 48, .inl (fun _ => 0))), (kf2, .inr (1, [.ref kc2, .ref kk2, .int 0])), (kc2, .inl (cy 0, 48, .inl (fun _ => 0))), (kle, .inr (3, [.ref kte, .ref kne, .ref kmi, .int 0, .ref ktr, .ref kbe, .int 0, .int 0, .int 0])), (kte, .inl (cy 0, 7, .inl (fun _ => 0))), (kne, .inl (cy 0, 7, .inl (fun _ => 0))), (kmi, .inl (cy 0, 7, .inl (fun _ => 0))), (kta, .inr (5, [.ref krta, .int 0])), (krta, .inl (cy 0, 48, .inl (fun _ => 0))), (kwa, .inr (5, [.ref krwa, .int 0])), (krwa, .inl (cy 0, 24, .inl (fun _ => 0))), (mo, .inr (12, [.ref nw, .ref nk, .ref na, .int 0, .ref fd, .ref ea, .ref so, .int (-1), .ref nd, .int 0, .int 0, .int 0, .int 0, .int 0, .int 0, .ref cd, .ref nmd, .ref pl, .ref tl, .ref fr_, .ref rw_, .ref brw, .int 0, .int 0, .ref po, .ref trc, .int 0, .int 0, .int 0, .ref wi, .ref sz_, .ref nu, .ref ca])), (nw, .inl (cy 0, 3567, .inl nw0)), (nk, .inl (cy 0, 3567, .inl (fun _ => 0))), (fd, .inl (cy 0, 7, .inl (fun _ => 0)))] H := hP
  refine lv_aload_n hx hb dL_law_1613 rfl (lv_at hl 1 rfl) ?_
  refine wV (B := (fun _ => True)) (wr := [(mo, .inr (12, [.ref nw, .ref nk, .ref na, .int 0, .ref fd, .ref ea, .ref so, .int (-1), .ref nd, .int 0, .int 0, .int 0, .int 0, .int 0, .int 0, .ref cd, .ref nmd, .ref pl, .ref tl, .ref fr_, .ref rw_, .ref brw, .int 0, .int 0, .ref po, .ref trc, .int 0, .int 0, .int 0, .ref wi, .ref sz_, .ref nu, .ref ca])), (nw, .inl (cy 0, 3567, .inl nw0)), (nk, .inl (cy 0, 3567, .inl (fun _ => 0))), (fd, .inl (cy 0, 7, .inl (fun _ => 0)))]) (rest := []) hx hb hml hown hts hE (c_X11_image l G cy sk H.size x lv kp tr_ sh er re fi vo (fun _ => 0) st oc ki ce si sp la ld sr tx vl f0 f1 f2 c0 c1 c2 k0 k1 k2 le te ne mi tr be 0 0 ta rta wa rwa wk foc fl gt kst koc kki kce ksi ksp kla kld ksr ktx kvl kf0 kf1 kf2 kc0 kc1 kc2 kk0 kk1 kk2 kle kte kne kmi ktr kbe 0 0 kta krta kwa krwa kwk kfoc kfl kgt X2 X3 X4 X8 X9 X10) kV_X11_image m_1250 rfl rfl ⟨(Nat.le_of_ble_eq_true rfl), (Nat.le_of_ble_eq_true rfl)⟩ hP hD hS hA 0 rfl rfl rfl [0, 1, 27, 28, 29, 30, 31, 32, 33, 34, 35, 36, 37, 38, 39, 40, 41, 42, 43, 44, 45, 46, 47, 48, 49, 50, 51, 2, 3, 4, 5, 6, 7, 8, 9, 10, 11, 12, 13, 14, 15, 16, 17, 18, 19, 20, 21, 22, 23, 24, 25, 26] [52, 53, 54, 55] rfl rfl rfl rfl (by decide) rfl rfl hl.1 (Nat.le_of_ble_eq_true rfl) dL_law_1614 ⟨(Nat.le_of_ble_eq_true rfl), (Nat.le_of_ble_eq_true rfl)⟩ (fun r_1 H locs hr_ haf hS => ?_)
  obtain ⟨-, -, hP, hD⟩ := haf
  have hP : va_P G classes [(mo, .inr (12, [.ref nw, .ref nk, .ref na, .int 0, .ref fd, .ref ea, .ref so, .int (-1), .ref nd, .int 0, .int 0, .int 0, .int 0, .int 0, .int 0, .ref cd, .ref nmd, .ref pl, .ref tl, .ref fr_, .ref rw_, .ref brw, .int 0, .int 0, .ref po, .ref trc, .int 0, .int 0, .int 0, .ref wi, .ref sz_, .ref nu, .ref ca])), (nw, .inl (cy 0, 3567, .inl nw0)), (nk, .inl (cy 0, 3567, .inl (fun _ => 0))), (fd, .inl (cy 0, 7, .inl (fun _ => 0)))] H := hP
  have hD : va_D A [(mo, .inr (12, [.ref nw, .ref nk, .ref na, .int 0, .ref fd, .ref ea, .ref so, .int (-1), .ref nd, .int 0, .int 0, .int 0, .int 0, .int 0, .int 0, .ref cd, .ref nmd, .ref pl, .ref tl, .ref fr_, .ref rw_, .ref brw, .int 0, .int 0, .ref po, .ref trc, .int 0, .int 0, .int 0, .ref wi, .ref sz_, .ref nu, .ref ca])), (nw, .inl (cy 0, 3567, .inl nw0)), (nk, .inl (cy 0, 3567, .inl (fun _ => 0))), (fd, .inl (cy 0, 7, .inl (fun _ => 0)))] := hD
  subst hr_
  refine lv_aload_n hx hb dL_law_1617 rfl (lv_at hl 2 rfl) ?_
  refine wV (B := (fun _ => True)) (wr := []) (rest := [.int 1]) hx hb hml hown hts hE (c_X12_image l G cy sk H.size mo nw nk na fd ea so nd cd nmd pl tl fr_ rw_ brw po trc wi sz_ nu ca (fun _ => 0) (fun _ => 0)) kV_X12_image m_1839 rfl rfl ⟨(Nat.le_of_ble_eq_true rfl), (Nat.le_of_ble_eq_true rfl)⟩ hP hD hS hA 0 rfl rfl rfl [0, 1, 3, 2] [] rfl rfl rfl rfl (by decide) rfl rfl hl.1 (Nat.le_of_ble_eq_true rfl) dL_law_1618 ⟨(Nat.le_of_ble_eq_true rfl), (Nat.le_of_ble_eq_true rfl)⟩ (fun r_2 H locs hr_ haf hS => ?_)
  obtain ⟨-, -, hP, hD⟩ := haf
  have hP : va_P G classes [] H := hP
  have hD : va_D A [] := hD
  subst hr_
  refine lv_icmp_eq (tgt := 1731) hx hb dL_law_1621 (by decide) (fun _ => ?_) (fun h9 => absurd h9 (by decide))
  exact hend H locs ls hS (lv_sub hl [0, 3] rfl)
set_option maxHeartbeats 4000000 in
set_option maxRecDepth 100000 in
theorem law_case_36 {p : Program} {e : Env} {s : State} {m : MethodId} {below : List Frame} {meth : Method} {c : Code} {Q : State → Prop} (l : Launch) {b : Nat} {xs : Nat → Int32} {A : Nat → Prop} {G : va_G} {cy : Nat → ClassId} {sk : Nat → Nat} {H : Heap} {locs : List Loc} {ls : Array Slot} (x : Nat) (lv : Nat) (kp : Nat) (tr_ : Nat) (sh : Nat) (er : Nat) (re : Nat) (fi : Nat) (vo : Nat) (mo : Nat) (nw : Nat) (nk : Nat) (na : Nat) (fd : Nat) (ea : Nat) (so : Nat) (nd : Nat) (cd : Nat) (nmd : Nat) (pl : Nat) (tl : Nat) (fr_ : Nat) (rw_ : Nat) (brw : Nat) (po : Nat) (trc : Nat) (wi : Nat) (sz_ : Nat) (nu : Nat) (ca : Nat)  : p.tables.exec = Jvm.exec → c.code = code → c.maxLocals = 4 → s.vm.findClass RL = some m.cls → (∀ w ∈ BASE, w.before #[Value.ref b] s = true) → EN G cy sk s → va_X b 6 xs s s.heap → b < s.heap.size → ¬ A b → (∀ q, s.heap.size ≤ q → A q) → va_P G classes [(x, .inr (11, [.ref lv, .ref kp, .ref tr_, .ref sh, .ref er, .ref re, .ref fi, .ref vo, .int 0])), (er, .inl (cy 0, 7, .inl (fun _ => 0))), (mo, .inr (12, [.ref nw, .ref nk, .ref na, .int 0, .ref fd, .ref ea, .ref so, .int (-1), .ref nd, .int 0, .int 0, .int 0, .int 0, .int 0, .int 0, .ref cd, .ref nmd, .ref pl, .ref tl, .ref fr_, .ref rw_, .ref brw, .int 0, .int 0, .ref po, .ref trc, .int 0, .int 0, .int 0, .ref wi, .ref sz_, .ref nu, .ref ca])), (nw, .inl (cy 0, 3567, .inl nw0)), (fd, .inl (cy 0, 7, .inl (fun _ => 0)))] H → va_D A [(x, .inr (11, [.ref lv, .ref kp, .ref tr_, .ref sh, .ref er, .ref re, .ref fi, .ref vo, .int 0])), (er, .inl (cy 0, 7, .inl (fun _ => 0))), (mo, .inr (12, [.ref nw, .ref nk, .ref na, .int 0, .ref fd, .ref ea, .ref so, .int (-1), .ref nd, .int 0, .int 0, .int 0, .int 0, .int 0, .int 0, .ref cd, .ref nmd, .ref pl, .ref tl, .ref fr_, .ref rw_, .ref brw, .int 0, .int 0, .ref po, .ref trc, .int 0, .int 0, .int 0, .ref wi, .ref sz_, .ref nu, .ref ca])), (nw, .inl (cy 0, 3567, .inl nw0)), (fd, .inl (cy 0, 7, .inl (fun _ => 0)))] → va_S A s.heap H locs → lv_has ls 4 [(0, .ref b), (1, .ref x), (2, .ref mo), (3, .int 0)] → (∀ (H : Heap) (locs : List Loc) (ls : Array Slot), va_S A s.heap H locs → lv_has ls 4 [(0, .ref b), (3, .int 0)] → W p l e room_1 s m #[Value.ref b] below meth c H locs 222 26621 Q (F0 m 1731 ls [])) → W p l e room_1 s m #[Value.ref b] below meth c H locs 222 26621 Q (F0 m 1626 ls []) := by
  intro hx hb hml hown hts hE hX hbl hbA hA hP hD hS hl hend
  have hP : va_P G classes [(x, .inr (11, [.ref lv, .ref kp, .ref tr_, .ref sh, .ref er, .ref re, .ref fi, .ref vo, .int 0])), (er, .inl (cy 0, 7, .inl (fun _ => 0))), (mo, .inr (12, [.ref nw, .ref nk, .ref na, .int 0, .ref fd, .ref ea, .ref so, .int (-1), .ref nd, .int 0, .int 0, .int 0, .int 0, .int 0, .int 0, .ref cd, .ref nmd, .ref pl, .ref tl, .ref fr_, .ref rw_, .ref brw, .int 0, .int 0, .ref po, .ref trc, .int 0, .int 0, .int 0, .ref wi, .ref sz_, .ref nu, .ref ca])), (nw, .inl (cy 0, 3567, .inl nw0)), (fd, .inl (cy 0, 7, .inl (fun _ => 0)))] H := hP
  refine lv_aload_n hx hb dL_law_1626 rfl (lv_at hl 1 rfl) ?_
  refine wV (B := (fun _ => True)) (wr := [(mo, .inr (12, [.ref nw, .ref nk, .ref na, .int 0, .ref fd, .ref ea, .ref so, .int (-1), .ref nd, .int 0, .int 0, .int 0, .int 0, .int 0, .int 0, .ref cd, .ref nmd, .ref pl, .ref tl, .ref fr_, .ref rw_, .ref brw, .int 0, .int 0, .ref po, .ref trc, .int 0, .int 0, .int 0, .ref wi, .ref sz_, .ref nu, .ref ca])), (nw, .inl (cy 0, 3567, .inl nw0)), (fd, .inl (cy 0, 7, .inl (fun _ => 0)))]) (rest := []) hx hb hml hown hts hE (c_X11_restore l G cy sk H.size x lv kp tr_ sh er re fi vo (fun _ => 0)) kV_X11_restore m_1280 rfl rfl ⟨(Nat.le_of_ble_eq_true rfl), (Nat.le_of_ble_eq_true rfl)⟩ hP hD hS hA 0 rfl rfl rfl [0, 1] [2, 3, 4] rfl rfl rfl rfl (by decide) rfl rfl hl.1 (Nat.le_of_ble_eq_true rfl) dL_law_1627 ⟨(Nat.le_of_ble_eq_true rfl), (Nat.le_of_ble_eq_true rfl)⟩ (fun r_1 H locs hr_ haf hS => ?_)
  obtain ⟨-, -, hP, hD⟩ := haf
  have hP : va_P G classes [(mo, .inr (12, [.ref nw, .ref nk, .ref na, .int 0, .ref fd, .ref ea, .ref so, .int (-1), .ref nd, .int 0, .int 0, .int 0, .int 0, .int 0, .int 0, .ref cd, .ref nmd, .ref pl, .ref tl, .ref fr_, .ref rw_, .ref brw, .int 0, .int 0, .ref po, .ref trc, .int 0, .int 0, .int 0, .ref wi, .ref sz_, .ref nu, .ref ca])), (nw, .inl (cy 0, 3567, .inl nw0)), (fd, .inl (cy 0, 7, .inl (fun _ => 0)))] H := hP
  have hD : va_D A [(mo, .inr (12, [.ref nw, .ref nk, .ref na, .int 0, .ref fd, .ref ea, .ref so, .int (-1), .ref nd, .int 0, .int 0, .int 0, .int 0, .int 0, .int 0, .ref cd, .ref nmd, .ref pl, .ref tl, .ref fr_, .ref rw_, .ref brw, .int 0, .int 0, .ref po, .ref trc, .int 0, .int 0, .int 0, .ref wi, .ref sz_, .ref nu, .ref ca])), (nw, .inl (cy 0, 3567, .inl nw0)), (fd, .inl (cy 0, 7, .inl (fun _ => 0)))] := hD
  subst hr_
  refine lv_aload_n hx hb dL_law_1630 rfl (lv_at hl 2 rfl) ?_
  refine wV (B := (fun _ => True)) (wr := []) (rest := [.int (-1000002)]) hx hb hml hown hts hE (c_X12_restore l G cy sk H.size mo nw nk na fd ea so nd cd nmd pl tl fr_ rw_ brw po trc wi sz_ nu ca (fun _ => 0)) kV_X12_restore m_1846 rfl rfl ⟨(Nat.le_of_ble_eq_true rfl), (Nat.le_of_ble_eq_true rfl)⟩ hP hD hS hA 0 rfl rfl rfl [0, 1, 2] [] rfl rfl rfl rfl (by decide) rfl rfl hl.1 (Nat.le_of_ble_eq_true rfl) dL_law_1631 ⟨(Nat.le_of_ble_eq_true rfl), (Nat.le_of_ble_eq_true rfl)⟩ (fun r_2 H locs hr_ haf hS => ?_)
  obtain ⟨-, -, hP, hD⟩ := haf
  have hP : va_P G classes [] H := hP
  have hD : va_D A [] := hD
  subst hr_
  refine lv_icmp_eq (tgt := 1731) hx hb dL_law_1634 (by decide) (fun _ => ?_) (fun h9 => absurd h9 (by decide))
  exact hend H locs ls hS (lv_sub hl [0, 3] rfl)
set_option maxHeartbeats 4000000 in
set_option maxRecDepth 100000 in
theorem law_case_37 {p : Program} {e : Env} {s : State} {m : MethodId} {below : List Frame} {meth : Method} {c : Code} {Q : State → Prop} (l : Launch) {b : Nat} {xs : Nat → Int32} {A : Nat → Prop} {G : va_G} {cy : Nat → ClassId} {sk : Nat → Nat} {H : Heap} {locs : List Loc} {ls : Array Slot} (x : Nat) (lv : Nat) (kp : Nat) (tr_ : Nat) (sh : Nat) (er : Nat) (re : Nat) (fi : Nat) (vo : Nat) (st : Nat) (la : Nat) (le : Nat) (ta : Nat) (wa : Nat) (rwa : Nat) (wk : Nat) (mo : Nat) (nw : Nat) (nk : Nat) (na : Nat) (fd : Nat) (ea : Nat) (so : Nat) (nd : Nat) (cd : Nat) (nmd : Nat) (pl : Nat) (tl : Nat) (fr_ : Nat) (rw_ : Nat) (brw : Nat) (po : Nat) (trc : Nat) (wi : Nat) (sz_ : Nat) (nu : Nat) (ca : Nat)  : p.tables.exec = Jvm.exec → c.code = code → c.maxLocals = 4 → s.vm.findClass RL = some m.cls → (∀ w ∈ BASE, w.before #[Value.ref b] s = true) → EN G cy sk s → va_X b 6 xs s s.heap → b < s.heap.size → ¬ A b → (∀ q, s.heap.size ≤ q → A q) → va_P G classes [(x, .inr (11, [.ref lv, .ref kp, .ref tr_, .ref sh, .ref er, .ref re, .ref fi, .ref vo, .int 0])), (er, .inl (cy 0, 7, .inl (fun _ => 0))), (lv, .inr (10, [.ref st, .ref la, .ref le, .ref ta, .ref wa, .ref wk, .int 0, .int 0])), (wa, .inr (5, [.ref rwa, .int 0])), (rwa, .inl (cy 0, 24, .inl (fun _ => 0))), (mo, .inr (12, [.ref nw, .ref nk, .ref na, .int 0, .ref fd, .ref ea, .ref so, .int (-1), .ref nd, .int 0, .int 0, .int 0, .int 0, .int 0, .int 0, .ref cd, .ref nmd, .ref pl, .ref tl, .ref fr_, .ref rw_, .ref brw, .int 0, .int 0, .ref po, .ref trc, .int 0, .int 0, .int 0, .ref wi, .ref sz_, .ref nu, .ref ca])), (nw, .inl (cy 0, 3567, .inl nw0)), (fd, .inl (cy 0, 7, .inl (fun _ => 0)))] H → va_D A [(x, .inr (11, [.ref lv, .ref kp, .ref tr_, .ref sh, .ref er, .ref re, .ref fi, .ref vo, .int 0])), (er, .inl (cy 0, 7, .inl (fun _ => 0))), (lv, .inr (10, [.ref st, .ref la, .ref le, .ref ta, .ref wa, .ref wk, .int 0, .int 0])), (wa, .inr (5, [.ref rwa, .int 0])), (rwa, .inl (cy 0, 24, .inl (fun _ => 0))), (mo, .inr (12, [.ref nw, .ref nk, .ref na, .int 0, .ref fd, .ref ea, .ref so, .int (-1), .ref nd, .int 0, .int 0, .int 0, .int 0, .int 0, .int 0, .ref cd, .ref nmd, .ref pl, .ref tl, .ref fr_, .ref rw_, .ref brw, .int 0, .int 0, .ref po, .ref trc, .int 0, .int 0, .int 0, .ref wi, .ref sz_, .ref nu, .ref ca])), (nw, .inl (cy 0, 3567, .inl nw0)), (fd, .inl (cy 0, 7, .inl (fun _ => 0)))] → va_S A s.heap H locs → lv_has ls 4 [(0, .ref b), (1, .ref x), (2, .ref mo), (3, .int 0)] → (∀ (H : Heap) (locs : List Loc) (ls : Array Slot), va_S A s.heap H locs → lv_has ls 4 [(0, .ref b), (3, .int 0)] → W p l e room_1 s m #[Value.ref b] below meth c H locs 222 26621 Q (F0 m 1731 ls [])) → W p l e room_1 s m #[Value.ref b] below meth c H locs 222 26621 Q (F0 m 1639 ls []) := by
  intro hx hb hml hown hts hE hX hbl hbA hA hP hD hS hl hend
  have hP : va_P G classes [(x, .inr (11, [.ref lv, .ref kp, .ref tr_, .ref sh, .ref er, .ref re, .ref fi, .ref vo, .int 0])), (er, .inl (cy 0, 7, .inl (fun _ => 0))), (lv, .inr (10, [.ref st, .ref la, .ref le, .ref ta, .ref wa, .ref wk, .int 0, .int 0])), (wa, .inr (5, [.ref rwa, .int 0])), (rwa, .inl (cy 0, 24, .inl (fun _ => 0))), (mo, .inr (12, [.ref nw, .ref nk, .ref na, .int 0, .ref fd, .ref ea, .ref so, .int (-1), .ref nd, .int 0, .int 0, .int 0, .int 0, .int 0, .int 0, .ref cd, .ref nmd, .ref pl, .ref tl, .ref fr_, .ref rw_, .ref brw, .int 0, .int 0, .ref po, .ref trc, .int 0, .int 0, .int 0, .ref wi, .ref sz_, .ref nu, .ref ca])), (nw, .inl (cy 0, 3567, .inl nw0)), (fd, .inl (cy 0, 7, .inl (fun _ => 0)))] H := hP
  refine lv_aload_n hx hb dL_law_1639 rfl (lv_at hl 1 rfl) ?_
  refine lv_aload_n hx hb dL_law_1640 rfl (lv_at hl 0 rfl) ?_
  refine lv_iload_n hx hb dL_law_1641 rfl (lv_at hl 3 rfl) ?_
  refine lv_iconst (v := 1) hx hb dL_law_1642 (by decide) ?_
  refine lv_iadd hx hb dL_law_1643 ?_
  refine tp (v := 1) (by decide) ?_
  refine va_sld hx hb hX hbl hbA hS (vinL (by decide)) dL_law_1644 ?_
  refine tp (v := (xs 1)) rfl ?_
  refine wV (B := (fun _ => True)) (wr := [(mo, .inr (12, [.ref nw, .ref nk, .ref na, .int 0, .ref fd, .ref ea, .ref so, .int (-1), .ref nd, .int 0, .int 0, .int 0, .int 0, .int 0, .int 0, .ref cd, .ref nmd, .ref pl, .ref tl, .ref fr_, .ref rw_, .ref brw, .int 0, .int 0, .ref po, .ref trc, .int 0, .int 0, .int 0, .ref wi, .ref sz_, .ref nu, .ref ca])), (nw, .inl (cy 0, 3567, .inl nw0)), (fd, .inl (cy 0, 7, .inl (fun _ => 0)))]) (rest := []) hx hb hml hown hts hE (c_X11_tell l G cy sk H.size x lv kp tr_ sh er re fi vo (fun _ => 0) lv st la le ta wa wk rwa (xs 1)) kV_X11_tell m_1284 rfl rfl ⟨(Nat.le_of_ble_eq_true rfl), (Nat.le_of_ble_eq_true rfl)⟩ hP hD hS hA 0 rfl rfl rfl [0, 1, 2, 3, 4] [5, 6, 7] rfl rfl rfl rfl (by decide) rfl rfl hl.1 (Nat.le_of_ble_eq_true rfl) dL_law_1645 ⟨(Nat.le_of_ble_eq_true rfl), (Nat.le_of_ble_eq_true rfl)⟩ (fun r_1 H locs hr_ haf hS => ?_)
  obtain ⟨-, -, hP, hD⟩ := haf
  have hP : va_P G classes [(mo, .inr (12, [.ref nw, .ref nk, .ref na, .int 0, .ref fd, .ref ea, .ref so, .int (-1), .ref nd, .int 0, .int 0, .int 0, .int 0, .int 0, .int 0, .ref cd, .ref nmd, .ref pl, .ref tl, .ref fr_, .ref rw_, .ref brw, .int 0, .int 0, .ref po, .ref trc, .int 0, .int 0, .int 0, .ref wi, .ref sz_, .ref nu, .ref ca])), (nw, .inl (cy 0, 3567, .inl nw0)), (fd, .inl (cy 0, 7, .inl (fun _ => 0)))] H := hP
  have hD : va_D A [(mo, .inr (12, [.ref nw, .ref nk, .ref na, .int 0, .ref fd, .ref ea, .ref so, .int (-1), .ref nd, .int 0, .int 0, .int 0, .int 0, .int 0, .int 0, .ref cd, .ref nmd, .ref pl, .ref tl, .ref fr_, .ref rw_, .ref brw, .int 0, .int 0, .ref po, .ref trc, .int 0, .int 0, .int 0, .ref wi, .ref sz_, .ref nu, .ref ca])), (nw, .inl (cy 0, 3567, .inl nw0)), (fd, .inl (cy 0, 7, .inl (fun _ => 0)))] := hD
  subst hr_
  refine lv_aload_n hx hb dL_law_1648 rfl (lv_at hl 2 rfl) ?_
  refine lv_aload_n hx hb dL_law_1649 rfl (lv_at hl 0 rfl) ?_
  refine lv_iload_n hx hb dL_law_1650 rfl (lv_at hl 3 rfl) ?_
  refine lv_iconst (v := 1) hx hb dL_law_1651 (by decide) ?_
  refine lv_iadd hx hb dL_law_1652 ?_
  refine tp (v := 1) (by decide) ?_
  refine va_sld hx hb hX hbl hbA hS (vinL (by decide)) dL_law_1653 ?_
  refine tp (v := (xs 1)) rfl ?_
  refine wV (B := (fun _ => True)) (wr := []) (rest := [.int 1]) hx hb hml hown hts hE (c_X12_tell l G cy sk H.size mo nw nk na fd ea so nd cd nmd pl tl fr_ rw_ brw po trc wi sz_ nu ca (fun _ => 0) (xs 1)) kV_X12_tell m_1850 rfl rfl ⟨(Nat.le_of_ble_eq_true rfl), (Nat.le_of_ble_eq_true rfl)⟩ hP hD hS hA 0 rfl rfl rfl [0, 1, 2] [] rfl rfl rfl rfl (by decide) rfl rfl hl.1 (Nat.le_of_ble_eq_true rfl) dL_law_1654 ⟨(Nat.le_of_ble_eq_true rfl), (Nat.le_of_ble_eq_true rfl)⟩ (fun r_2 H locs hr_ haf hS => ?_)
  obtain ⟨-, -, hP, hD⟩ := haf
  have hP : va_P G classes [] H := hP
  have hD : va_D A [] := hD
  subst hr_
  refine lv_icmp_eq (tgt := 1731) hx hb dL_law_1657 (by decide) (fun _ => ?_) (fun h9 => absurd h9 (by decide))
  exact hend H locs ls hS (lv_sub hl [0, 3] rfl)
set_option maxHeartbeats 4000000 in
set_option maxRecDepth 100000 in
theorem law_case_38 {p : Program} {e : Env} {s : State} {m : MethodId} {below : List Frame} {meth : Method} {c : Code} {Q : State → Prop} (l : Launch) {b : Nat} {xs : Nat → Int32} {A : Nat → Prop} {G : va_G} {cy : Nat → ClassId} {sk : Nat → Nat} {H : Heap} {locs : List Loc} {ls : Array Slot} (x : Nat) (lv : Nat) (kp : Nat) (tr_ : Nat) (sh : Nat) (er : Nat) (re : Nat) (fi : Nat) (vo : Nat) (st : Nat) (la : Nat) (le : Nat) (ta : Nat) (wa : Nat) (rwa : Nat) (wk : Nat) (mo : Nat) (nw : Nat) (nk : Nat) (na : Nat) (fd : Nat) (ea : Nat) (so : Nat) (nd : Nat) (cd : Nat) (nmd : Nat) (pl : Nat) (tl : Nat) (fr_ : Nat) (rw_ : Nat) (brw : Nat) (po : Nat) (trc : Nat) (wi : Nat) (sz_ : Nat) (nu : Nat) (ca : Nat)  : p.tables.exec = Jvm.exec → c.code = code → c.maxLocals = 4 → s.vm.findClass RL = some m.cls → (∀ w ∈ BASE, w.before #[Value.ref b] s = true) → EN G cy sk s → va_X b 6 xs s s.heap → b < s.heap.size → ¬ A b → (∀ q, s.heap.size ≤ q → A q) → va_P G classes [(x, .inr (11, [.ref lv, .ref kp, .ref tr_, .ref sh, .ref er, .ref re, .ref fi, .ref vo, .int 0])), (er, .inl (cy 0, 7, .inl (fun _ => 0))), (lv, .inr (10, [.ref st, .ref la, .ref le, .ref ta, .ref wa, .ref wk, .int 0, .int 0])), (wa, .inr (5, [.ref rwa, .int 0])), (mo, .inr (12, [.ref nw, .ref nk, .ref na, .int 0, .ref fd, .ref ea, .ref so, .int (-1), .ref nd, .int 0, .int 0, .int 0, .int 0, .int 0, .int 0, .ref cd, .ref nmd, .ref pl, .ref tl, .ref fr_, .ref rw_, .ref brw, .int 0, .int 0, .ref po, .ref trc, .int 0, .int 0, .int 0, .ref wi, .ref sz_, .ref nu, .ref ca])), (nw, .inl (cy 0, 3567, .inl nw0)), (fd, .inl (cy 0, 7, .inl (fun _ => 0)))] H → va_D A [(x, .inr (11, [.ref lv, .ref kp, .ref tr_, .ref sh, .ref er, .ref re, .ref fi, .ref vo, .int 0])), (er, .inl (cy 0, 7, .inl (fun _ => 0))), (lv, .inr (10, [.ref st, .ref la, .ref le, .ref ta, .ref wa, .ref wk, .int 0, .int 0])), (wa, .inr (5, [.ref rwa, .int 0])), (mo, .inr (12, [.ref nw, .ref nk, .ref na, .int 0, .ref fd, .ref ea, .ref so, .int (-1), .ref nd, .int 0, .int 0, .int 0, .int 0, .int 0, .int 0, .ref cd, .ref nmd, .ref pl, .ref tl, .ref fr_, .ref rw_, .ref brw, .int 0, .int 0, .ref po, .ref trc, .int 0, .int 0, .int 0, .ref wi, .ref sz_, .ref nu, .ref ca])), (nw, .inl (cy 0, 3567, .inl nw0)), (fd, .inl (cy 0, 7, .inl (fun _ => 0)))] → va_S A s.heap H locs → lv_has ls 4 [(0, .ref b), (1, .ref x), (2, .ref mo), (3, .int 0)] → (∀ (H : Heap) (locs : List Loc) (ls : Array Slot), va_S A s.heap H locs → lv_has ls 4 [(0, .ref b), (3, .int 0)] → W p l e room_1 s m #[Value.ref b] below meth c H locs 222 26621 Q (F0 m 1731 ls [])) → W p l e room_1 s m #[Value.ref b] below meth c H locs 222 26621 Q (F0 m 1662 ls []) := by
  intro hx hb hml hown hts hE hX hbl hbA hA hP hD hS hl hend
  have hP : va_P G classes [(x, .inr (11, [.ref lv, .ref kp, .ref tr_, .ref sh, .ref er, .ref re, .ref fi, .ref vo, .int 0])), (er, .inl (cy 0, 7, .inl (fun _ => 0))), (lv, .inr (10, [.ref st, .ref la, .ref le, .ref ta, .ref wa, .ref wk, .int 0, .int 0])), (wa, .inr (5, [.ref rwa, .int 0])), (mo, .inr (12, [.ref nw, .ref nk, .ref na, .int 0, .ref fd, .ref ea, .ref so, .int (-1), .ref nd, .int 0, .int 0, .int 0, .int 0, .int 0, .int 0, .ref cd, .ref nmd, .ref pl, .ref tl, .ref fr_, .ref rw_, .ref brw, .int 0, .int 0, .ref po, .ref trc, .int 0, .int 0, .int 0, .ref wi, .ref sz_, .ref nu, .ref ca])), (nw, .inl (cy 0, 3567, .inl nw0)), (fd, .inl (cy 0, 7, .inl (fun _ => 0)))] H := hP
  refine lv_aload_n hx hb dL_law_1662 rfl (lv_at hl 1 rfl) ?_
  refine lv_aload_n hx hb dL_law_1663 rfl (lv_at hl 0 rfl) ?_
  refine lv_iload_n hx hb dL_law_1664 rfl (lv_at hl 3 rfl) ?_
  refine lv_iconst (v := 1) hx hb dL_law_1665 (by decide) ?_
  refine lv_iadd hx hb dL_law_1666 ?_
  refine tp (v := 1) (by decide) ?_
  refine va_sld hx hb hX hbl hbA hS (vinL (by decide)) dL_law_1667 ?_
  refine tp (v := (xs 1)) rfl ?_
  refine wV (B := (fun _ => True)) (wr := [(mo, .inr (12, [.ref nw, .ref nk, .ref na, .int 0, .ref fd, .ref ea, .ref so, .int (-1), .ref nd, .int 0, .int 0, .int 0, .int 0, .int 0, .int 0, .ref cd, .ref nmd, .ref pl, .ref tl, .ref fr_, .ref rw_, .ref brw, .int 0, .int 0, .ref po, .ref trc, .int 0, .int 0, .int 0, .ref wi, .ref sz_, .ref nu, .ref ca])), (nw, .inl (cy 0, 3567, .inl nw0)), (fd, .inl (cy 0, 7, .inl (fun _ => 0)))]) (rest := []) hx hb hml hown hts hE (c_X11_check l G cy sk H.size x lv kp tr_ sh er re fi vo (fun _ => 0) lv st la le ta wa wk rwa (xs 1)) kV_X11_check m_1288 rfl rfl ⟨(Nat.le_of_ble_eq_true rfl), (Nat.le_of_ble_eq_true rfl)⟩ hP hD hS hA 0 rfl rfl rfl [0, 1, 2, 3] [4, 5, 6] rfl rfl rfl rfl (by decide) rfl rfl hl.1 (Nat.le_of_ble_eq_true rfl) dL_law_1668 ⟨(Nat.le_of_ble_eq_true rfl), (Nat.le_of_ble_eq_true rfl)⟩ (fun r_1 H locs hr_ haf hS => ?_)
  obtain ⟨-, -, hP, hD⟩ := haf
  have hP : va_P G classes [(mo, .inr (12, [.ref nw, .ref nk, .ref na, .int 0, .ref fd, .ref ea, .ref so, .int (-1), .ref nd, .int 0, .int 0, .int 0, .int 0, .int 0, .int 0, .ref cd, .ref nmd, .ref pl, .ref tl, .ref fr_, .ref rw_, .ref brw, .int 0, .int 0, .ref po, .ref trc, .int 0, .int 0, .int 0, .ref wi, .ref sz_, .ref nu, .ref ca])), (nw, .inl (cy 0, 3567, .inl nw0)), (fd, .inl (cy 0, 7, .inl (fun _ => 0)))] H := hP
  have hD : va_D A [(mo, .inr (12, [.ref nw, .ref nk, .ref na, .int 0, .ref fd, .ref ea, .ref so, .int (-1), .ref nd, .int 0, .int 0, .int 0, .int 0, .int 0, .int 0, .ref cd, .ref nmd, .ref pl, .ref tl, .ref fr_, .ref rw_, .ref brw, .int 0, .int 0, .ref po, .ref trc, .int 0, .int 0, .int 0, .ref wi, .ref sz_, .ref nu, .ref ca])), (nw, .inl (cy 0, 3567, .inl nw0)), (fd, .inl (cy 0, 7, .inl (fun _ => 0)))] := hD
  subst hr_
  refine lv_aload_n hx hb dL_law_1671 rfl (lv_at hl 2 rfl) ?_
  refine lv_aload_n hx hb dL_law_1672 rfl (lv_at hl 0 rfl) ?_
  refine lv_iload_n hx hb dL_law_1673 rfl (lv_at hl 3 rfl) ?_
  refine lv_iconst (v := 1) hx hb dL_law_1674 (by decide) ?_
  refine lv_iadd hx hb dL_law_1675 ?_
  refine tp (v := 1) (by decide) ?_
  refine va_sld hx hb hX hbl hbA hS (vinL (by decide)) dL_law_1676 ?_
  refine tp (v := (xs 1)) rfl ?_
  refine wV (B := (fun _ => True)) (wr := []) (rest := [.int (-1000001)]) hx hb hml hown hts hE (c_X12_check l G cy sk H.size mo nw nk na fd ea so nd cd nmd pl tl fr_ rw_ brw po trc wi sz_ nu ca (fun _ => 0) (xs 1)) kV_X12_check m_1854 rfl rfl ⟨(Nat.le_of_ble_eq_true rfl), (Nat.le_of_ble_eq_true rfl)⟩ hP hD hS hA 0 rfl rfl rfl [0, 1, 2] [] rfl rfl rfl rfl (by decide) rfl rfl hl.1 (Nat.le_of_ble_eq_true rfl) dL_law_1677 ⟨(Nat.le_of_ble_eq_true rfl), (Nat.le_of_ble_eq_true rfl)⟩ (fun r_2 H locs hr_ haf hS => ?_)
  obtain ⟨-, -, hP, hD⟩ := haf
  have hP : va_P G classes [] H := hP
  have hD : va_D A [] := hD
  subst hr_
  refine lv_icmp_eq (tgt := 1731) hx hb dL_law_1680 (by decide) (fun _ => ?_) (fun h9 => absurd h9 (by decide))
  exact hend H locs ls hS (lv_sub hl [0, 3] rfl)
set_option maxHeartbeats 4000000 in
set_option maxRecDepth 100000 in
theorem law_case_39 {p : Program} {e : Env} {s : State} {m : MethodId} {below : List Frame} {meth : Method} {c : Code} {Q : State → Prop} (l : Launch) {b : Nat} {xs : Nat → Int32} {A : Nat → Prop} {G : va_G} {cy : Nat → ClassId} {sk : Nat → Nat} {H : Heap} {locs : List Loc} {ls : Array Slot} (x : Nat) (lv : Nat) (kp : Nat) (tr_ : Nat) (sh : Nat) (er : Nat) (re : Nat) (fi : Nat) (vo : Nat) (st : Nat) (oc : Nat) (ki : Nat) (ce : Nat) (si : Nat) (sp : Nat) (la : Nat) (le : Nat) (te : Nat) (ne : Nat) (mi : Nat) (tr : Nat) (be : Nat) (ta : Nat) (rta : Nat) (wa : Nat) (rwa : Nat) (wk : Nat) (bg : Nat) (vt : Nat) (vta : Nat) (mo : Nat) (nw : Nat) (nk : Nat) (na : Nat) (fd : Nat) (ea : Nat) (so : Nat) (nd : Nat) (cd : Nat) (nmd : Nat) (pl : Nat) (tl : Nat) (fr_ : Nat) (rw_ : Nat) (brw : Nat) (po : Nat) (trc : Nat) (wi : Nat) (sz_ : Nat) (nu : Nat) (ca : Nat)  : p.tables.exec = Jvm.exec → c.code = code → c.maxLocals = 4 → s.vm.findClass RL = some m.cls → (∀ w ∈ BASE, w.before #[Value.ref b] s = true) → EN G cy sk s → va_X b 6 xs s s.heap → b < s.heap.size → ¬ A b → (∀ q, s.heap.size ≤ q → A q) → va_P G classes [(x, .inr (11, [.ref lv, .ref kp, .ref tr_, .ref sh, .ref er, .ref re, .ref fi, .ref vo, .int 0])), (er, .inl (cy 0, 7, .inl (fun _ => 0))), (lv, .inr (10, [.ref st, .ref la, .ref le, .ref ta, .ref wa, .ref wk, .int 0, .int 0])), (st, .inr (7, [.ref oc, .ref ki, .ref ce, .ref si, .ref sp, .int 0])), (le, .inr (3, [.ref te, .ref ne, .ref mi, .int 0, .ref tr, .ref be, .int 0, .int 0, .int 0])), (ta, .inr (5, [.ref rta, .int 0])), (wa, .inr (5, [.ref rwa, .int 0])), (vo, .inr (8, [.ref bg, .ref vt, .int 0, .int 0, .int 0, .int 0])), (vt, .inr (5, [.ref vta, .int 0])), (mo, .inr (12, [.ref nw, .ref nk, .ref na, .int 0, .ref fd, .ref ea, .ref so, .int (-1), .ref nd, .int 0, .int 0, .int 0, .int 0, .int 0, .int 0, .ref cd, .ref nmd, .ref pl, .ref tl, .ref fr_, .ref rw_, .ref brw, .int 0, .int 0, .ref po, .ref trc, .int 0, .int 0, .int 0, .ref wi, .ref sz_, .ref nu, .ref ca])), (nw, .inl (cy 0, 3567, .inl nw0)), (fd, .inl (cy 0, 7, .inl (fun _ => 0)))] H → va_D A [(x, .inr (11, [.ref lv, .ref kp, .ref tr_, .ref sh, .ref er, .ref re, .ref fi, .ref vo, .int 0])), (er, .inl (cy 0, 7, .inl (fun _ => 0))), (lv, .inr (10, [.ref st, .ref la, .ref le, .ref ta, .ref wa, .ref wk, .int 0, .int 0])), (st, .inr (7, [.ref oc, .ref ki, .ref ce, .ref si, .ref sp, .int 0])), (le, .inr (3, [.ref te, .ref ne, .ref mi, .int 0, .ref tr, .ref be, .int 0, .int 0, .int 0])), (ta, .inr (5, [.ref rta, .int 0])), (wa, .inr (5, [.ref rwa, .int 0])), (vo, .inr (8, [.ref bg, .ref vt, .int 0, .int 0, .int 0, .int 0])), (vt, .inr (5, [.ref vta, .int 0])), (mo, .inr (12, [.ref nw, .ref nk, .ref na, .int 0, .ref fd, .ref ea, .ref so, .int (-1), .ref nd, .int 0, .int 0, .int 0, .int 0, .int 0, .int 0, .ref cd, .ref nmd, .ref pl, .ref tl, .ref fr_, .ref rw_, .ref brw, .int 0, .int 0, .ref po, .ref trc, .int 0, .int 0, .int 0, .ref wi, .ref sz_, .ref nu, .ref ca])), (nw, .inl (cy 0, 3567, .inl nw0)), (fd, .inl (cy 0, 7, .inl (fun _ => 0)))] → va_S A s.heap H locs → lv_has ls 4 [(0, .ref b), (1, .ref x), (2, .ref mo), (3, .int 0)] → (∀ (H : Heap) (locs : List Loc) (ls : Array Slot), va_S A s.heap H locs → lv_has ls 4 [(0, .ref b), (3, .int 0)] → W p l e room_1 s m #[Value.ref b] below meth c H locs 222 26621 Q (F0 m 1731 ls [])) → W p l e room_1 s m #[Value.ref b] below meth c H locs 222 26621 Q (F0 m 1685 ls []) := by
  intro hx hb hml hown hts hE hX hbl hbA hA hP hD hS hl hend
  have hP : va_P G classes [(x, .inr (11, [.ref lv, .ref kp, .ref tr_, .ref sh, .ref er, .ref re, .ref fi, .ref vo, .int 0])), (er, .inl (cy 0, 7, .inl (fun _ => 0))), (lv, .inr (10, [.ref st, .ref la, .ref le, .ref ta, .ref wa, .ref wk, .int 0, .int 0])), (st, .inr (7, [.ref oc, .ref ki, .ref ce, .ref si, .ref sp, .int 0])), (le, .inr (3, [.ref te, .ref ne, .ref mi, .int 0, .ref tr, .ref be, .int 0, .int 0, .int 0])), (ta, .inr (5, [.ref rta, .int 0])), (wa, .inr (5, [.ref rwa, .int 0])), (vo, .inr (8, [.ref bg, .ref vt, .int 0, .int 0, .int 0, .int 0])), (vt, .inr (5, [.ref vta, .int 0])), (mo, .inr (12, [.ref nw, .ref nk, .ref na, .int 0, .ref fd, .ref ea, .ref so, .int (-1), .ref nd, .int 0, .int 0, .int 0, .int 0, .int 0, .int 0, .ref cd, .ref nmd, .ref pl, .ref tl, .ref fr_, .ref rw_, .ref brw, .int 0, .int 0, .ref po, .ref trc, .int 0, .int 0, .int 0, .ref wi, .ref sz_, .ref nu, .ref ca])), (nw, .inl (cy 0, 3567, .inl nw0)), (fd, .inl (cy 0, 7, .inl (fun _ => 0)))] H := hP
  refine lv_aload_n hx hb dL_law_1685 rfl (lv_at hl 1 rfl) ?_
  refine lv_aload_n hx hb dL_law_1686 rfl (lv_at hl 0 rfl) ?_
  refine lv_iload_n hx hb dL_law_1687 rfl (lv_at hl 3 rfl) ?_
  refine lv_iconst (v := 1) hx hb dL_law_1688 (by decide) ?_
  refine lv_iadd hx hb dL_law_1689 ?_
  refine tp (v := 1) (by decide) ?_
  refine va_sld hx hb hX hbl hbA hS (vinL (by decide)) dL_law_1690 ?_
  refine tp (v := (xs 1)) rfl ?_
  refine wV (B := (fun _ => True)) (wr := [(mo, .inr (12, [.ref nw, .ref nk, .ref na, .int 0, .ref fd, .ref ea, .ref so, .int (-1), .ref nd, .int 0, .int 0, .int 0, .int 0, .int 0, .int 0, .ref cd, .ref nmd, .ref pl, .ref tl, .ref fr_, .ref rw_, .ref brw, .int 0, .int 0, .ref po, .ref trc, .int 0, .int 0, .int 0, .ref wi, .ref sz_, .ref nu, .ref ca])), (nw, .inl (cy 0, 3567, .inl nw0)), (fd, .inl (cy 0, 7, .inl (fun _ => 0)))]) (rest := []) hx hb hml hown hts hE (c_X11_count l G cy sk H.size x lv kp tr_ sh er re fi vo (fun _ => 0) lv st la le ta wa wk oc ki ce si sp te ne mi tr be rta rwa bg vt vta (xs 1)) kV_X11_count m_1292 rfl rfl ⟨(Nat.le_of_ble_eq_true rfl), (Nat.le_of_ble_eq_true rfl)⟩ hP hD hS hA 0 rfl rfl rfl [0, 1, 2, 3, 4, 5, 6, 7, 8] [9, 10, 11] rfl rfl rfl rfl (by decide) rfl rfl hl.1 (Nat.le_of_ble_eq_true rfl) dL_law_1691 ⟨(Nat.le_of_ble_eq_true rfl), (Nat.le_of_ble_eq_true rfl)⟩ (fun r_1 H locs hr_ haf hS => ?_)
  obtain ⟨-, -, hP, hD⟩ := haf
  have hP : va_P G classes [(mo, .inr (12, [.ref nw, .ref nk, .ref na, .int 0, .ref fd, .ref ea, .ref so, .int (-1), .ref nd, .int 0, .int 0, .int 0, .int 0, .int 0, .int 0, .ref cd, .ref nmd, .ref pl, .ref tl, .ref fr_, .ref rw_, .ref brw, .int 0, .int 0, .ref po, .ref trc, .int 0, .int 0, .int 0, .ref wi, .ref sz_, .ref nu, .ref ca])), (nw, .inl (cy 0, 3567, .inl nw0)), (fd, .inl (cy 0, 7, .inl (fun _ => 0)))] H := hP
  have hD : va_D A [(mo, .inr (12, [.ref nw, .ref nk, .ref na, .int 0, .ref fd, .ref ea, .ref so, .int (-1), .ref nd, .int 0, .int 0, .int 0, .int 0, .int 0, .int 0, .ref cd, .ref nmd, .ref pl, .ref tl, .ref fr_, .ref rw_, .ref brw, .int 0, .int 0, .ref po, .ref trc, .int 0, .int 0, .int 0, .ref wi, .ref sz_, .ref nu, .ref ca])), (nw, .inl (cy 0, 3567, .inl nw0)), (fd, .inl (cy 0, 7, .inl (fun _ => 0)))] := hD
  subst hr_
  refine lv_aload_n hx hb dL_law_1694 rfl (lv_at hl 2 rfl) ?_
  refine lv_aload_n hx hb dL_law_1695 rfl (lv_at hl 0 rfl) ?_
  refine lv_iload_n hx hb dL_law_1696 rfl (lv_at hl 3 rfl) ?_
  refine lv_iconst (v := 1) hx hb dL_law_1697 (by decide) ?_
  refine lv_iadd hx hb dL_law_1698 ?_
  refine tp (v := 1) (by decide) ?_
  refine va_sld hx hb hX hbl hbA hS (vinL (by decide)) dL_law_1699 ?_
  refine tp (v := (xs 1)) rfl ?_
  refine wV (B := (fun _ => True)) (wr := []) (rest := [.int (F_count (xs 1))]) hx hb hml hown hts hE (c_X12_count l G cy sk H.size mo nw nk na fd ea so nd cd nmd pl tl fr_ rw_ brw po trc wi sz_ nu ca (fun _ => 0) (xs 1)) kV_X12_count m_1858 rfl rfl ⟨(Nat.le_of_ble_eq_true rfl), (Nat.le_of_ble_eq_true rfl)⟩ hP hD hS hA 0 rfl rfl rfl [0, 1, 2] [] rfl rfl rfl rfl (by decide) rfl rfl hl.1 (Nat.le_of_ble_eq_true rfl) dL_law_1700 ⟨(Nat.le_of_ble_eq_true rfl), (Nat.le_of_ble_eq_true rfl)⟩ (fun r_2 H locs hr_ haf hS => ?_)
  obtain ⟨-, -, hP, hD⟩ := haf
  have hP : va_P G classes [] H := hP
  have hD : va_D A [] := hD
  subst hr_
  refine lv_icmp_eq (tgt := 1731) hx hb dL_law_1703 (by decide) (fun _ => ?_) (fun h9 => absurd rfl h9)
  exact hend H locs ls hS (lv_sub hl [0, 3] rfl)
set_option maxHeartbeats 4000000 in
set_option maxRecDepth 100000 in
theorem law_case_40 {p : Program} {e : Env} {s : State} {m : MethodId} {below : List Frame} {meth : Method} {c : Code} {Q : State → Prop} (l : Launch) {b : Nat} {xs : Nat → Int32} {A : Nat → Prop} {G : va_G} {cy : Nat → ClassId} {sk : Nat → Nat} {H : Heap} {locs : List Loc} {ls : Array Slot} (x : Nat) (lv : Nat) (kp : Nat) (tr_ : Nat) (sh : Nat) (er : Nat) (re : Nat) (fi : Nat) (vo : Nat) (mo : Nat) (nw : Nat) (nk : Nat) (na : Nat) (fd : Nat) (ea : Nat) (so : Nat) (nd : Nat) (cd : Nat) (nmd : Nat) (pl : Nat) (tl : Nat) (fr_ : Nat) (rw_ : Nat) (brw : Nat) (po : Nat) (trc : Nat) (wi : Nat) (sz_ : Nat) (nu : Nat) (ca : Nat)  : p.tables.exec = Jvm.exec → c.code = code → c.maxLocals = 4 → s.vm.findClass RL = some m.cls → (∀ w ∈ BASE, w.before #[Value.ref b] s = true) → EN G cy sk s → va_X b 6 xs s s.heap → b < s.heap.size → ¬ A b → (∀ q, s.heap.size ≤ q → A q) → va_P G classes [(x, .inr (11, [.ref lv, .ref kp, .ref tr_, .ref sh, .ref er, .ref re, .ref fi, .ref vo, .int 0])), (er, .inl (cy 0, 7, .inl (fun _ => 0))), (mo, .inr (12, [.ref nw, .ref nk, .ref na, .int 0, .ref fd, .ref ea, .ref so, .int (-1), .ref nd, .int 0, .int 0, .int 0, .int 0, .int 0, .int 0, .ref cd, .ref nmd, .ref pl, .ref tl, .ref fr_, .ref rw_, .ref brw, .int 0, .int 0, .ref po, .ref trc, .int 0, .int 0, .int 0, .ref wi, .ref sz_, .ref nu, .ref ca])), (nw, .inl (cy 0, 3567, .inl nw0)), (fd, .inl (cy 0, 7, .inl (fun _ => 0)))] H → va_D A [(x, .inr (11, [.ref lv, .ref kp, .ref tr_, .ref sh, .ref er, .ref re, .ref fi, .ref vo, .int 0])), (er, .inl (cy 0, 7, .inl (fun _ => 0))), (mo, .inr (12, [.ref nw, .ref nk, .ref na, .int 0, .ref fd, .ref ea, .ref so, .int (-1), .ref nd, .int 0, .int 0, .int 0, .int 0, .int 0, .int 0, .ref cd, .ref nmd, .ref pl, .ref tl, .ref fr_, .ref rw_, .ref brw, .int 0, .int 0, .ref po, .ref trc, .int 0, .int 0, .int 0, .ref wi, .ref sz_, .ref nu, .ref ca])), (nw, .inl (cy 0, 3567, .inl nw0)), (fd, .inl (cy 0, 7, .inl (fun _ => 0)))] → va_S A s.heap H locs → lv_has ls 4 [(0, .ref b), (1, .ref x), (2, .ref mo), (3, .int 0)] → (∀ (H : Heap) (locs : List Loc) (ls : Array Slot), va_S A s.heap H locs → lv_has ls 4 [(0, .ref b), (3, .int 0)] → W p l e room_1 s m #[Value.ref b] below meth c H locs 222 26621 Q (F0 m 1731 ls [])) → W p l e room_1 s m #[Value.ref b] below meth c H locs 222 26621 Q (F0 m 1708 ls []) := by
  intro hx hb hml hown hts hE hX hbl hbA hA hP hD hS hl hend
  have hP : va_P G classes [(x, .inr (11, [.ref lv, .ref kp, .ref tr_, .ref sh, .ref er, .ref re, .ref fi, .ref vo, .int 0])), (er, .inl (cy 0, 7, .inl (fun _ => 0))), (mo, .inr (12, [.ref nw, .ref nk, .ref na, .int 0, .ref fd, .ref ea, .ref so, .int (-1), .ref nd, .int 0, .int 0, .int 0, .int 0, .int 0, .int 0, .ref cd, .ref nmd, .ref pl, .ref tl, .ref fr_, .ref rw_, .ref brw, .int 0, .int 0, .ref po, .ref trc, .int 0, .int 0, .int 0, .ref wi, .ref sz_, .ref nu, .ref ca])), (nw, .inl (cy 0, 3567, .inl nw0)), (fd, .inl (cy 0, 7, .inl (fun _ => 0)))] H := hP
  refine lv_aload_n hx hb dL_law_1708 rfl (lv_at hl 1 rfl) ?_
  refine lv_aload_n hx hb dL_law_1709 rfl (lv_at hl 0 rfl) ?_
  refine lv_iload_n hx hb dL_law_1710 rfl (lv_at hl 3 rfl) ?_
  refine lv_iconst (v := 1) hx hb dL_law_1711 (by decide) ?_
  refine lv_iadd hx hb dL_law_1712 ?_
  refine tp (v := 1) (by decide) ?_
  refine va_sld hx hb hX hbl hbA hS (vinL (by decide)) dL_law_1713 ?_
  refine tp (v := (xs 1)) rfl ?_
  refine wV (B := (fun _ => True)) (wr := [(mo, .inr (12, [.ref nw, .ref nk, .ref na, .int 0, .ref fd, .ref ea, .ref so, .int (-1), .ref nd, .int 0, .int 0, .int 0, .int 0, .int 0, .int 0, .ref cd, .ref nmd, .ref pl, .ref tl, .ref fr_, .ref rw_, .ref brw, .int 0, .int 0, .ref po, .ref trc, .int 0, .int 0, .int 0, .ref wi, .ref sz_, .ref nu, .ref ca])), (nw, .inl (cy 0, 3567, .inl nw0)), (fd, .inl (cy 0, 7, .inl (fun _ => 0)))]) (rest := []) hx hb hml hown hts hE (c_X11_told l G cy sk H.size x lv kp tr_ sh er re fi vo (xs 1)) kV_X11_told m_1308 rfl rfl ⟨(Nat.le_of_ble_eq_true rfl), (Nat.le_of_ble_eq_true rfl)⟩ hP hD hS hA 0 rfl rfl rfl [0, 1] [2, 3, 4] rfl rfl rfl rfl (by decide) rfl rfl hl.1 (Nat.le_of_ble_eq_true rfl) dL_law_1714 ⟨(Nat.le_of_ble_eq_true rfl), (Nat.le_of_ble_eq_true rfl)⟩ (fun r_1 H locs hr_ haf hS => ?_)
  obtain ⟨-, -, hP, hD⟩ := haf
  have hP : va_P G classes [(mo, .inr (12, [.ref nw, .ref nk, .ref na, .int 0, .ref fd, .ref ea, .ref so, .int (-1), .ref nd, .int 0, .int 0, .int 0, .int 0, .int 0, .int 0, .ref cd, .ref nmd, .ref pl, .ref tl, .ref fr_, .ref rw_, .ref brw, .int 0, .int 0, .ref po, .ref trc, .int 0, .int 0, .int 0, .ref wi, .ref sz_, .ref nu, .ref ca])), (nw, .inl (cy 0, 3567, .inl nw0)), (fd, .inl (cy 0, 7, .inl (fun _ => 0)))] H := hP
  have hD : va_D A [(mo, .inr (12, [.ref nw, .ref nk, .ref na, .int 0, .ref fd, .ref ea, .ref so, .int (-1), .ref nd, .int 0, .int 0, .int 0, .int 0, .int 0, .int 0, .ref cd, .ref nmd, .ref pl, .ref tl, .ref fr_, .ref rw_, .ref brw, .int 0, .int 0, .ref po, .ref trc, .int 0, .int 0, .int 0, .ref wi, .ref sz_, .ref nu, .ref ca])), (nw, .inl (cy 0, 3567, .inl nw0)), (fd, .inl (cy 0, 7, .inl (fun _ => 0)))] := hD
  subst hr_
  refine lv_aload_n hx hb dL_law_1717 rfl (lv_at hl 2 rfl) ?_
  refine lv_aload_n hx hb dL_law_1718 rfl (lv_at hl 0 rfl) ?_
  refine lv_iload_n hx hb dL_law_1719 rfl (lv_at hl 3 rfl) ?_
  refine lv_iconst (v := 1) hx hb dL_law_1720 (by decide) ?_
  refine lv_iadd hx hb dL_law_1721 ?_
  refine tp (v := 1) (by decide) ?_
  refine va_sld hx hb hX hbl hbA hS (vinL (by decide)) dL_law_1722 ?_
  refine tp (v := (xs 1)) rfl ?_
  refine wV (B := (fun _ => True)) (wr := []) (rest := [.int (F_told (xs 1))]) hx hb hml hown hts hE (c_X12_told l G cy sk H.size mo nw nk na fd ea so nd cd nmd pl tl fr_ rw_ brw po trc wi sz_ nu ca (xs 1)) kV_X12_told m_1866 rfl rfl ⟨(Nat.le_of_ble_eq_true rfl), (Nat.le_of_ble_eq_true rfl)⟩ hP hD hS hA 0 rfl rfl rfl [0, 1, 2] [] rfl rfl rfl rfl (by decide) rfl rfl hl.1 (Nat.le_of_ble_eq_true rfl) dL_law_1723 ⟨(Nat.le_of_ble_eq_true rfl), (Nat.le_of_ble_eq_true rfl)⟩ (fun r_2 H locs hr_ haf hS => ?_)
  obtain ⟨-, -, hP, hD⟩ := haf
  have hP : va_P G classes [] H := hP
  have hD : va_D A [] := hD
  subst hr_
  refine lv_icmp_eq (tgt := 1731) hx hb dL_law_1726 (by decide) (fun _ => ?_) (fun h9 => absurd rfl h9)
  exact hend H locs ls hS (lv_sub hl [0, 3] rfl)
