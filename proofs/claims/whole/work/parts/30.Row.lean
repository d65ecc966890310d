set_option maxHeartbeats 4000000 in
set_option maxRecDepth 100000 in
theorem c_Row_beginning (l : Launch) (dC : Nat → ClassId) (dI : Nat → Nat → Nat) (cL cI : ClassId) (sz : Nat) (x0 : Int64) (x1 : Int32) (u : Int64) (hm : m_Row_beginning x0 x1 = some u) : Met l zy_Row_beginning zw_Row_beginning ({ frames := 0, cells := 0, slots := 0, locals := 0 }) (va_Pc [.long x0, .int x1] (fun U => U.heap.size = sz ∧ va_P (dC, dI) zCl [] U.heap ∧ va_K (dC, dI) zCl [(cL, .long), (cI, .int)] U ∧ va_D (fun _ => True) [])) (va_Ql (fun (r : Int64) (_ : Unit) => u = r) (fun _ t => va_P (dC, dI) zCl [] t.heap ∧ va_D (va_A [] sz) []) (va_A [] sz)) 0 0 (va_A [] sz) := by
  refine Met.ofW (cc := zc_Row_beginning) (maxL := 3) (ret := (some .long)) (by decide) rfl ?_
  intro p e s m args below meth c s₁ B hml hv
  obtain ⟨rfl, hsz, hP, hK, hD0⟩ := hv
  have hx := B.exec
  have hb := B.bytes
  have hr := B.returns
  have hts0 := atoms_spec (ws := zw_Row_beginning) B.pre
  have hts : ∀ w ∈ WSg, w.before _ s = true := fun w h => hts0 w (List.mem_cons_of_mem _ h)
  clear hts0
  have hown : s.vm.findClass zR_Row = some m.cls := findClass_of_methodNamed B.named
  have hlocks := B.notSynchronized
  subst hsz
  have hD := hD0.self (sz := s.heap.size)
  generalize hAe : va_A [] s.heap.size = A at hD ⊢
  have hA : ∀ q : Nat, s.heap.size ≤ q → A q := fun q h => by rw [← hAe]; exact Or.inr h
  have hS : va_S A s.heap s.heap [] := va_S.rf
  have hP : va_P (dC, dI) zCl [] s.heap := hP
  have hl := lv_entry ([.long x0, .int x1]) (n := 3) (Nat.le_of_ble_eq_true rfl)
  rw [lg_entry_eq]
  generalize (lg_sl ([.long x0, .int x1]) ++ List.replicate (3 - (lg_sl ([.long x0, .int x1])).length) Slot.unset).toArray = ls at hl ⊢
  have hl : lv_has ls 3 [(0, .long x0), (2, .int x1)] := hl
  have KR : ∀ (pc : Nat) (ls : Array Slot) (H : Heap) (locs : List Loc), decode zc_Row_beginning pc = .ok (.lreturn, 1) → va_P (dC, dI) zCl [] H → va_D A [] → va_S A s.heap H locs → W p l e (headSpec zw_Row_beginning ({ frames := 0, cells := 0, slots := 0, locals := 0 })).room s m ([.long x0, .int x1] : List Value).toArray below meth c H locs 0 0 (MQ below (va_Ql (fun (r : Int64) (_ : Unit) => u = r) (fun _ t => va_P (dC, dI) zCl [] t.heap ∧ va_D A []) A) ([.long x0, .int x1] : List Value).toArray s 0 0 A) (F0 m pc ls [.long u]) := by
    intro pc ls H locs hd hP9 hD9 hS
    exact W.lret (v := u) hx hb hr (fun t ht hW => ⟨⟨u, (), rfl, rfl, by rw [ht]; exact hP9, hD9⟩, hS.F ht⟩) hS.2.2 hd
  generalize (MQ below (va_Ql (fun (r : Int64) (_ : Unit) => u = r) (fun _ t => va_P (dC, dI) zCl [] t.heap ∧ va_D A []) A) ([.long x0, .int x1] : List Value).toArray s 0 0 A) = Q at KR ⊢
  unfold m_Row_beginning at hm
  refine lv_lload_n hx hb zd_Row_beginning_0 rfl (lv_at hl 0 rfl) ?_
  refine lv_ldc2 (v := (-1)) hx hb hown (hts _ wk92) zd_Row_beginning_1 ?_
  refine lv_bipush (v := 63) hx hb zd_Row_beginning_4 (by decide) ?_
  refine lv_bipush (v := 9) hx hb zd_Row_beginning_6 (by decide) ?_
  refine lv_iload_n hx hb zd_Row_beginning_8 rfl (lv_at hl 1 rfl) ?_
  refine lv_imul hx hb zd_Row_beginning_9 ?_
  refine lv_isub hx hb zd_Row_beginning_10 ?_
  refine lv_lshl (v := ((-1) <<< (((63 - (9 * x1)) : Int32).toInt64 &&& 63))) hx hb zd_Row_beginning_11 rfl ?_
  refine lv_land hx hb zd_Row_beginning_12 ?_
  obtain rfl := Option.some.inj hm
  exact KR 13 ls _ _ zd_Row_beginning_13 hP hD hS
set_option maxHeartbeats 4000000 in
set_option maxRecDepth 100000 in
theorem c_Row_extended (l : Launch) (dC : Nat → ClassId) (dI : Nat → Nat → Nat) (cL cI : ClassId) (sz : Nat) (x0 : Int64) (x1 : Int32) (x2 : Int32) (u : Int64) (hm : m_Row_extended x0 x1 x2 = some u) : Met l zy_Row_extended zw_Row_extended ({ frames := 0, cells := 0, slots := 0, locals := 0 }) (va_Pc [.long x0, .int x1, .int x2] (fun U => U.heap.size = sz ∧ va_P (dC, dI) zCl [] U.heap ∧ va_K (dC, dI) zCl [(cL, .long), (cI, .int)] U ∧ va_D (fun _ => True) [])) (va_Ql (fun (r : Int64) (_ : Unit) => u = r) (fun _ t => va_P (dC, dI) zCl [] t.heap ∧ va_D (va_A [] sz) []) (va_A [] sz)) 0 0 (va_A [] sz) := by
  refine Met.ofW (cc := zc_Row_extended) (maxL := 4) (ret := (some .long)) (by decide) rfl ?_
  intro p e s m args below meth c s₁ B hml hv
  obtain ⟨rfl, hsz, hP, hK, hD0⟩ := hv
  have hx := B.exec
  have hb := B.bytes
  have hr := B.returns
  have hts0 := atoms_spec (ws := zw_Row_extended) B.pre
  have hts : ∀ w ∈ WSg, w.before _ s = true := fun w h => hts0 w (List.mem_cons_of_mem _ h)
  clear hts0
  have hown : s.vm.findClass zR_Row = some m.cls := findClass_of_methodNamed B.named
  have hlocks := B.notSynchronized
  subst hsz
  have hD := hD0.self (sz := s.heap.size)
  generalize hAe : va_A [] s.heap.size = A at hD ⊢
  have hA : ∀ q : Nat, s.heap.size ≤ q → A q := fun q h => by rw [← hAe]; exact Or.inr h
  have hS : va_S A s.heap s.heap [] := va_S.rf
  have hP : va_P (dC, dI) zCl [] s.heap := hP
  have hl := lv_entry ([.long x0, .int x1, .int x2]) (n := 4) (Nat.le_of_ble_eq_true rfl)
  rw [lg_entry_eq]
  generalize (lg_sl ([.long x0, .int x1, .int x2]) ++ List.replicate (4 - (lg_sl ([.long x0, .int x1, .int x2])).length) Slot.unset).toArray = ls at hl ⊢
  have hl : lv_has ls 4 [(0, .long x0), (2, .int x1), (3, .int x2)] := hl
  have KR : ∀ (pc : Nat) (ls : Array Slot) (H : Heap) (locs : List Loc), decode zc_Row_extended pc = .ok (.lreturn, 1) → va_P (dC, dI) zCl [] H → va_D A [] → va_S A s.heap H locs → W p l e (headSpec zw_Row_extended ({ frames := 0, cells := 0, slots := 0, locals := 0 })).room s m ([.long x0, .int x1, .int x2] : List Value).toArray below meth c H locs 0 0 (MQ below (va_Ql (fun (r : Int64) (_ : Unit) => u = r) (fun _ t => va_P (dC, dI) zCl [] t.heap ∧ va_D A []) A) ([.long x0, .int x1, .int x2] : List Value).toArray s 0 0 A) (F0 m pc ls [.long u]) := by
    intro pc ls H locs hd hP9 hD9 hS
    exact W.lret (v := u) hx hb hr (fun t ht hW => ⟨⟨u, (), rfl, rfl, by rw [ht]; exact hP9, hD9⟩, hS.F ht⟩) hS.2.2 hd
  generalize (MQ below (va_Ql (fun (r : Int64) (_ : Unit) => u = r) (fun _ t => va_P (dC, dI) zCl [] t.heap ∧ va_D A []) A) ([.long x0, .int x1, .int x2] : List Value).toArray s 0 0 A) = Q at KR ⊢
  unfold m_Row_extended at hm
  refine lv_lload_n hx hb zd_Row_extended_0 rfl (lv_at hl 0 rfl) ?_
  refine lv_iload_n hx hb zd_Row_extended_1 rfl (lv_at hl 2 rfl) ?_
  refine lv_iconst (v := 1) hx hb zd_Row_extended_2 (by decide) ?_
  refine lv_iadd hx hb zd_Row_extended_3 ?_
  refine lv_i2l (v := ((x2 + 1) : Int32).toInt64) hx hb zd_Row_extended_4 rfl ?_
  refine lv_bipush (v := 63) hx hb zd_Row_extended_5 (by decide) ?_
  refine lv_bipush (v := 9) hx hb zd_Row_extended_7 (by decide) ?_
  refine lv_iload_n hx hb zd_Row_extended_9 rfl (lv_at hl 1 rfl) ?_
  refine lv_iconst (v := 1) hx hb zd_Row_extended_10 (by decide) ?_
  refine lv_iadd hx hb zd_Row_extended_11 ?_
  refine lv_imul hx hb zd_Row_extended_12 ?_
  refine lv_isub hx hb zd_Row_extended_13 ?_
  refine lv_lshl (v := (((x2 + 1) : Int32).toInt64 <<< (((63 - (9 * (x1 + 1))) : Int32).toInt64 &&& 63))) hx hb zd_Row_extended_14 rfl ?_
  refine lv_lor hx hb zd_Row_extended_15 ?_
  obtain rfl := Option.some.inj hm
  exact KR 16 ls _ _ zd_Row_extended_16 hP hD hS
set_option maxHeartbeats 4000000 in
set_option maxRecDepth 100000 in
theorem c_Row_ofSerial (l : Launch) (dC : Nat → ClassId) (dI : Nat → Nat → Nat) (cL cI : ClassId) (sz : Nat) (x0 : Int32) (u : Int64) (hm : m_Row_ofSerial x0 = some u) : Met l zy_Row_ofSerial zw_Row_ofSerial ({ frames := 1, cells := 0, slots := 0, locals := 23 }) (va_Pc [.int x0] (fun U => U.heap.size = sz ∧ va_P (dC, dI) zCl [] U.heap ∧ va_K (dC, dI) zCl [(cL, .long), (cI, .int)] U ∧ va_D (fun _ => True) [])) (va_Ql (fun (r : Int64) (_ : Unit) => u = r) (fun _ t => va_P (dC, dI) zCl [] t.heap ∧ va_D (va_A [] sz) []) (va_A [] sz)) 0 0 (va_A [] sz) := by
  refine Met.ofW (cc := zc_Row_ofSerial) (maxL := 1) (ret := (some .long)) (by decide) rfl ?_
  intro p e s m args below meth c s₁ B hml hv
  obtain ⟨rfl, hsz, hP, hK, hD0⟩ := hv
  have hx := B.exec
  have hb := B.bytes
  have hr := B.returns
  have hts0 := atoms_spec (ws := zw_Row_ofSerial) B.pre
  have hts : ∀ w ∈ WSg, w.before _ s = true := fun w h => hts0 w (List.mem_cons_of_mem _ h)
  clear hts0
  have hown : s.vm.findClass zR_Row = some m.cls := findClass_of_methodNamed B.named
  have hlocks := B.notSynchronized
  subst hsz
  have hD := hD0.self (sz := s.heap.size)
  generalize hAe : va_A [] s.heap.size = A at hD ⊢
  have hA : ∀ q : Nat, s.heap.size ≤ q → A q := fun q h => by rw [← hAe]; exact Or.inr h
  have hS : va_S A s.heap s.heap [] := va_S.rf
  have hP : va_P (dC, dI) zCl [] s.heap := hP
  have hl := lv_entry ([.int x0]) (n := 1) (Nat.le_of_ble_eq_true rfl)
  rw [lg_entry_eq]
  generalize (lg_sl ([.int x0]) ++ List.replicate (1 - (lg_sl ([.int x0])).length) Slot.unset).toArray = ls at hl ⊢
  have hl : lv_has ls 1 [(0, .int x0)] := hl
  have KR : ∀ (pc : Nat) (ls : Array Slot) (H : Heap) (locs : List Loc), decode zc_Row_ofSerial pc = .ok (.lreturn, 1) → va_P (dC, dI) zCl [] H → va_D A [] → va_S A s.heap H locs → W p l e (headSpec zw_Row_ofSerial ({ frames := 1, cells := 0, slots := 0, locals := 23 })).room s m ([.int x0] : List Value).toArray below meth c H locs 0 0 (MQ below (va_Ql (fun (r : Int64) (_ : Unit) => u = r) (fun _ t => va_P (dC, dI) zCl [] t.heap ∧ va_D A []) A) ([.int x0] : List Value).toArray s 0 0 A) (F0 m pc ls [.long u]) := by
    intro pc ls H locs hd hP9 hD9 hS
    exact W.lret (v := u) hx hb hr (fun t ht hW => ⟨⟨u, (), rfl, rfl, by rw [ht]; exact hP9, hD9⟩, hS.F ht⟩) hS.2.2 hd
  generalize (MQ below (va_Ql (fun (r : Int64) (_ : Unit) => u = r) (fun _ t => va_P (dC, dI) zCl [] t.heap ∧ va_D A []) A) ([.int x0] : List Value).toArray s 0 0 A) = Q at KR ⊢
  unfold m_Row_ofSerial at hm
  refine lv_lconst (v := 0) hx hb zd_Row_ofSerial_0 (by decide) ?_
  refine lv_iconst (v := 0) hx hb zd_Row_ofSerial_1 (by decide) ?_
  refine lv_iload_n hx hb zd_Row_ofSerial_2 rfl (lv_at hl 0 rfl) ?_
  refine lv_sipush (v := 256) hx hb zd_Row_ofSerial_3 (by decide) ?_
  refine lv_idiv hx hb zd_Row_ofSerial_6 (by decide) ?_
  obtain ⟨u1, hu1, hm⟩ := Option.bind_eq_some_iff.mp hm
  have hPc := hP
  have hDc := hD
  have hFc := va_free (wc := []) hD hS hA [] rfl
  refine va_calll (va_runS (As := [.long 0, .int 0, .int ((x0 / 256))]) (rest := []) ⟨hx, hb, hml, hown, hts⟩ (c_Row_extended l dC dI cL cI s.heap.size 0 0 ((x0 / 256)) u1 hu1) (va_cwS 3 hts (zgS wk89 wk90 wk35 wk87) rfl rfl rfl zh_Row_extended.2 ⟨Nat.le_of_ble_eq_true rfl, Nat.le_of_ble_eq_true rfl⟩) ⟨fun a U g mk q => by obtain ⟨q0, q1, qP, qK, qD⟩ := q; exact ⟨q0, q1, qP, va_K.moved (u := U) (U := U.calling g mk a) (Vm.Alike.refl U.vm) qK, qD⟩, fun U hU hW => ⟨rfl, by rw [hU], by rw [hU]; exact hPc, va_K.moved hW.alike hK, hDc.weaken (fun _ _ _ _ => trivial)⟩⟩ rfl rfl hl.1 rfl (lv_room (Nat.le_of_ble_eq_true rfl)) zd_Row_ofSerial_7 ⟨Nat.le_of_ble_eq_true rfl, Nat.le_of_ble_eq_true rfl⟩) hS (fun q _ h => hFc q h) hFc (fun r1 _ t H1 locs ht hvm hw hB hz1 hk1 hS => ?_)
  subst hw
  obtain ⟨hP1, hD1⟩ := hB
  rw [ht] at hP1
  have hP := hP1
  have hD := hD1.weaken (fun _ q _ h => hFc q.1 h)
  generalize H1 = H at hP hS ⊢
  refine lv_iconst (v := 1) hx hb zd_Row_ofSerial_10 (by decide) ?_
  refine lv_iload_n hx hb zd_Row_ofSerial_11 rfl (lv_at hl 0 rfl) ?_
  refine lv_sipush (v := 256) hx hb zd_Row_ofSerial_12 (by decide) ?_
  refine lv_irem hx hb zd_Row_ofSerial_15 (by decide) ?_
  obtain ⟨u2, hu2, hm⟩ := Option.bind_eq_some_iff.mp hm
  have hPc := hP
  have hDc := hD
  have hFc := va_free (wc := []) hD hS hA [] rfl
  refine va_calll (va_runS (As := [.long u1, .int 1, .int ((x0 - x0 / 256 * 256))]) (rest := []) ⟨hx, hb, hml, hown, hts⟩ (c_Row_extended l dC dI cL cI H.size u1 1 ((x0 - x0 / 256 * 256)) u2 hu2) (va_cwS 3 hts (zgS wk89 wk90 wk35 wk87) rfl rfl rfl zh_Row_extended.2 ⟨Nat.le_of_ble_eq_true rfl, Nat.le_of_ble_eq_true rfl⟩) ⟨fun a U g mk q => by obtain ⟨q0, q1, qP, qK, qD⟩ := q; exact ⟨q0, q1, qP, va_K.moved (u := U) (U := U.calling g mk a) (Vm.Alike.refl U.vm) qK, qD⟩, fun U hU hW => ⟨rfl, by rw [hU], by rw [hU]; exact hPc, va_K.moved hW.alike hK, hDc.weaken (fun _ _ _ _ => trivial)⟩⟩ rfl rfl hl.1 rfl (lv_room (Nat.le_of_ble_eq_true rfl)) zd_Row_ofSerial_16 ⟨Nat.le_of_ble_eq_true rfl, Nat.le_of_ble_eq_true rfl⟩) hS (fun q _ h => hFc q h) hFc (fun r1 _ t H1 locs ht hvm hw hB hz1 hk1 hS => ?_)
  subst hw
  obtain ⟨hP1, hD1⟩ := hB
  rw [ht] at hP1
  have hP := hP1
  have hD := hD1.weaken (fun _ q _ h => hFc q.1 h)
  generalize H1 = H at hP hS ⊢
  obtain rfl := Option.some.inj hm
  exact KR 19 ls _ _ zd_Row_ofSerial_19 hP hD hS
set_option maxHeartbeats 4000000 in
set_option maxRecDepth 100000 in
theorem c_Row_digitAt (l : Launch) (dC : Nat → ClassId) (dI : Nat → Nat → Nat) (cL cI : ClassId) (sz : Nat) (x0 : Int64) (x1 : Int32) (u : Int32) (hm : m_Row_digitAt x0 x1 = some u) : Met l zy_Row_digitAt zw_Row_digitAt ({ frames := 0, cells := 0, slots := 0, locals := 0 }) (va_Pc [.long x0, .int x1] (fun U => U.heap.size = sz ∧ va_P (dC, dI) zCl [] U.heap ∧ va_K (dC, dI) zCl [(cL, .long), (cI, .int)] U ∧ va_D (fun _ => True) [])) (va_Qi (fun (r : Int32) (_ : Unit) => u = r) (fun _ t => va_P (dC, dI) zCl [] t.heap ∧ va_D (va_A [] sz) []) (va_A [] sz)) 0 0 (va_A [] sz) := by
  refine Met.ofW (cc := zc_Row_digitAt) (maxL := 3) (ret := (some .int)) (by decide) rfl ?_
  intro p e s m args below meth c s₁ B hml hv
  obtain ⟨rfl, hsz, hP, hK, hD0⟩ := hv
  have hx := B.exec
  have hb := B.bytes
  have hr := B.returns
  have hts0 := atoms_spec (ws := zw_Row_digitAt) B.pre
  have hts : ∀ w ∈ WSg, w.before _ s = true := fun w h => hts0 w (List.mem_cons_of_mem _ h)
  clear hts0
  have hown : s.vm.findClass zR_Row = some m.cls := findClass_of_methodNamed B.named
  have hlocks := B.notSynchronized
  subst hsz
  have hD := hD0.self (sz := s.heap.size)
  generalize hAe : va_A [] s.heap.size = A at hD ⊢
  have hA : ∀ q : Nat, s.heap.size ≤ q → A q := fun q h => by rw [← hAe]; exact Or.inr h
  have hS : va_S A s.heap s.heap [] := va_S.rf
  have hP : va_P (dC, dI) zCl [] s.heap := hP
  have hl := lv_entry ([.long x0, .int x1]) (n := 3) (Nat.le_of_ble_eq_true rfl)
  rw [lg_entry_eq]
  generalize (lg_sl ([.long x0, .int x1]) ++ List.replicate (3 - (lg_sl ([.long x0, .int x1])).length) Slot.unset).toArray = ls at hl ⊢
  have hl : lv_has ls 3 [(0, .long x0), (2, .int x1)] := hl
  have KR : ∀ (pc : Nat) (ls : Array Slot) (H : Heap) (locs : List Loc), decode zc_Row_digitAt pc = .ok (.ireturn, 1) → va_P (dC, dI) zCl [] H → va_D A [] → va_S A s.heap H locs → W p l e (headSpec zw_Row_digitAt ({ frames := 0, cells := 0, slots := 0, locals := 0 })).room s m ([.long x0, .int x1] : List Value).toArray below meth c H locs 0 0 (MQ below (va_Qi (fun (r : Int32) (_ : Unit) => u = r) (fun _ t => va_P (dC, dI) zCl [] t.heap ∧ va_D A []) A) ([.long x0, .int x1] : List Value).toArray s 0 0 A) (F0 m pc ls [.int u]) := by
    intro pc ls H locs hd hP9 hD9 hS
    exact W.iret (v := u) hx hb hr (fun t ht hW => ⟨⟨u, (), rfl, rfl, by rw [ht]; exact hP9, hD9⟩, hS.F ht⟩) hS.2.2 hd
  generalize (MQ below (va_Qi (fun (r : Int32) (_ : Unit) => u = r) (fun _ t => va_P (dC, dI) zCl [] t.heap ∧ va_D A []) A) ([.long x0, .int x1] : List Value).toArray s 0 0 A) = Q at KR ⊢
  unfold m_Row_digitAt at hm
  refine lv_lload_n hx hb zd_Row_digitAt_0 rfl (lv_at hl 0 rfl) ?_
  refine lv_bipush (v := 63) hx hb zd_Row_digitAt_1 (by decide) ?_
  refine lv_bipush (v := 9) hx hb zd_Row_digitAt_3 (by decide) ?_
  refine lv_iload_n hx hb zd_Row_digitAt_5 rfl (lv_at hl 1 rfl) ?_
  refine lv_iconst (v := 1) hx hb zd_Row_digitAt_6 (by decide) ?_
  refine lv_iadd hx hb zd_Row_digitAt_7 ?_
  refine lv_imul hx hb zd_Row_digitAt_8 ?_
  refine lv_isub hx hb zd_Row_digitAt_9 ?_
  refine lv_lushr (v := (x0.toUInt64 >>> (((63 - (9 * (x1 + 1))) : Int32).toInt64.toUInt64 &&& Int64.toUInt64 63)).toInt64) hx hb zd_Row_digitAt_10 rfl ?_
  refine lv_l2i (v := ((x0.toUInt64 >>> (((63 - (9 * (x1 + 1))) : Int32).toInt64.toUInt64 &&& Int64.toUInt64 63)).toInt64 : Int64).toInt32) hx hb zd_Row_digitAt_11 rfl ?_
  refine lv_sipush (v := 511) hx hb zd_Row_digitAt_12 (by decide) ?_
  refine lv_iand hx hb zd_Row_digitAt_15 ?_
  obtain rfl := Option.some.inj hm
  exact KR 16 ls _ _ zd_Row_digitAt_16 hP hD hS
set_option maxHeartbeats 4000000 in
set_option maxRecDepth 100000 in
theorem c_Row_lengthInCommon (l : Launch) (dC : Nat → ClassId) (dI : Nat → Nat → Nat) (cL cI : ClassId) (sz : Nat) (x0 : Int64) (x1 : Int64) (u : Int32) (hm : m_Row_lengthInCommon x0 x1 = some u) : Met l zy_Row_lengthInCommon zw_Row_lengthInCommon ({ frames := 1, cells := 0, slots := 0, locals := 22 }) (va_Pc [.long x0, .long x1] (fun U => U.heap.size = sz ∧ va_P (dC, dI) zCl [] U.heap ∧ va_K (dC, dI) zCl [(cL, .long), (cI, .int)] U ∧ va_D (fun _ => True) [])) (va_Qi (fun (r : Int32) (_ : Unit) => u = r) (fun _ t => va_P (dC, dI) zCl [] t.heap ∧ va_D (va_A [] sz) []) (va_A [] sz)) 0 0 (va_A [] sz) := by
  refine Met.ofW (cc := zc_Row_lengthInCommon) (maxL := 5) (ret := (some .int)) (by decide) rfl ?_
  intro p e s m args below meth c s₁ B hml hv
  obtain ⟨rfl, hsz, hP, hK, hD0⟩ := hv
  have hx := B.exec
  have hb := B.bytes
  have hr := B.returns
  have hts0 := atoms_spec (ws := zw_Row_lengthInCommon) B.pre
  have hts : ∀ w ∈ WSg, w.before _ s = true := fun w h => hts0 w (List.mem_cons_of_mem _ h)
  clear hts0
  have hown : s.vm.findClass zR_Row = some m.cls := findClass_of_methodNamed B.named
  have hlocks := B.notSynchronized
  subst hsz
  have hD := hD0.self (sz := s.heap.size)
  generalize hAe : va_A [] s.heap.size = A at hD ⊢
  have hA : ∀ q : Nat, s.heap.size ≤ q → A q := fun q h => by rw [← hAe]; exact Or.inr h
  have hS : va_S A s.heap s.heap [] := va_S.rf
  have hP : va_P (dC, dI) zCl [] s.heap := hP
  have hl := lv_entry ([.long x0, .long x1]) (n := 5) (Nat.le_of_ble_eq_true rfl)
  rw [lg_entry_eq]
  generalize (lg_sl ([.long x0, .long x1]) ++ List.replicate (5 - (lg_sl ([.long x0, .long x1])).length) Slot.unset).toArray = ls at hl ⊢
  have hl : lv_has ls 5 [(0, .long x0), (2, .long x1)] := hl
  have KR : ∀ (pc : Nat) (ls : Array Slot) (H : Heap) (locs : List Loc), decode zc_Row_lengthInCommon pc = .ok (.ireturn, 1) → va_P (dC, dI) zCl [] H → va_D A [] → va_S A s.heap H locs → W p l e (headSpec zw_Row_lengthInCommon ({ frames := 1, cells := 0, slots := 0, locals := 22 })).room s m ([.long x0, .long x1] : List Value).toArray below meth c H locs 0 0 (MQ below (va_Qi (fun (r : Int32) (_ : Unit) => u = r) (fun _ t => va_P (dC, dI) zCl [] t.heap ∧ va_D A []) A) ([.long x0, .long x1] : List Value).toArray s 0 0 A) (F0 m pc ls [.int u]) := by
    intro pc ls H locs hd hP9 hD9 hS
    exact W.iret (v := u) hx hb hr (fun t ht hW => ⟨⟨u, (), rfl, rfl, by rw [ht]; exact hP9, hD9⟩, hS.F ht⟩) hS.2.2 hd
  generalize (MQ below (va_Qi (fun (r : Int32) (_ : Unit) => u = r) (fun _ t => va_P (dC, dI) zCl [] t.heap ∧ va_D A []) A) ([.long x0, .long x1] : List Value).toArray s 0 0 A) = Q at KR ⊢
  have L3 : ∀ (n : Nat) (l0 : Int64) (l2 : Int64) (l4 : Int32) (ls : Array Slot) (H : Heap) (locs : List Loc) (uu : (Int32)), lv_has ls 5 [(0, .long l0), (2, .long l2), (4, .int l4)] → va_P (dC, dI) zCl [] H → va_D A [] → va_S A s.heap H locs → m_Row_lengthInCommon_l3 l0 l2 n l4 = some uu → (∀ (ls : Array Slot) (H : Heap) (locs : List Loc), lv_has ls 5 [(0, .long l0), (2, .long l2), (4, .int uu)] → va_P (dC, dI) zCl [] H → va_D A [] → va_S A s.heap H locs → W p l e (headSpec zw_Row_lengthInCommon ({ frames := 1, cells := 0, slots := 0, locals := 22 })).room s m ([.long x0, .long x1] : List Value).toArray below meth c H locs 0 0 Q (F0 m 31 ls [])) → W p l e (headSpec zw_Row_lengthInCommon ({ frames := 1, cells := 0, slots := 0, locals := 22 })).room s m ([.long x0, .long x1] : List Value).toArray below meth c H locs 0 0 Q (F0 m 3 ls []) := by
    intro n
    induction n with
    | zero =>
      intro l0 l2 l4 ls H locs uu hl hP hD hS hm K
      rw [m_Row_lengthInCommon_l3] at hm
      cases hm
    | succ n ih =>
      intro l0 l2 l4 ls H locs uu hl hP hD hS hm K
      rw [m_Row_lengthInCommon_l3] at hm
      refine lv_iload hx hb zd_Row_lengthInCommon_3 (lv_at hl 2 rfl) ?_
      refine lv_bipush (v := 7) hx hb zd_Row_lengthInCommon_5 (by decide) ?_
      refine lv_icmp_ge (tgt := 31) hx hb zd_Row_lengthInCommon_7 (by decide) (fun hc => ?_) (fun hc => ?_)
      · rw [if_pos hc] at hm
        obtain rfl := Option.some.inj hm
        exact K ls H locs (lv_sub hl [0, 1, 2] rfl) hP hD hS
      · rw [if_neg hc] at hm
        refine lv_lload_n hx hb zd_Row_lengthInCommon_10 rfl (lv_at hl 0 rfl) ?_
        refine lv_iload hx hb zd_Row_lengthInCommon_11 (lv_at hl 2 rfl) ?_
        obtain ⟨u1, hu1, hm⟩ := Option.bind_eq_some_iff.mp hm
        have hPc := hP
        have hDc := hD
        have hFc := va_free (wc := []) hD hS hA [] rfl
        refine va_calli (va_runS (As := [.long l0, .int l4]) (rest := []) ⟨hx, hb, hml, hown, hts⟩ (c_Row_digitAt l dC dI cL cI H.size l0 l4 u1 hu1) (va_cwS 2 hts (zgS wk94 wk95 wk35 wk100) rfl rfl rfl zh_Row_digitAt.2 ⟨Nat.le_of_ble_eq_true rfl, Nat.le_of_ble_eq_true rfl⟩) ⟨fun a U g mk q => by obtain ⟨q0, q1, qP, qK, qD⟩ := q; exact ⟨q0, q1, qP, va_K.moved (u := U) (U := U.calling g mk a) (Vm.Alike.refl U.vm) qK, qD⟩, fun U hU hW => ⟨rfl, by rw [hU], by rw [hU]; exact hPc, va_K.moved hW.alike hK, hDc.weaken (fun _ _ _ _ => trivial)⟩⟩ rfl rfl hl.1 rfl (lv_room (Nat.le_of_ble_eq_true rfl)) zd_Row_lengthInCommon_13 ⟨Nat.le_of_ble_eq_true rfl, Nat.le_of_ble_eq_true rfl⟩) hS (fun q _ h => hFc q h) hFc (fun r1 _ t H1 locs ht hvm hw hB hz1 hk1 hS => ?_)
        subst hw
        obtain ⟨hP1, hD1⟩ := hB
        rw [ht] at hP1
        have hP := hP1
        have hD := hD1.weaken (fun _ q _ h => hFc q.1 h)
        generalize H1 = H at hP hS ⊢
        refine lv_lload_n hx hb zd_Row_lengthInCommon_16 rfl (lv_at hl 1 rfl) ?_
        refine lv_iload hx hb zd_Row_lengthInCommon_17 (lv_at hl 2 rfl) ?_
        obtain ⟨u2, hu2, hm⟩ := Option.bind_eq_some_iff.mp hm
        have hPc := hP
        have hDc := hD
        have hFc := va_free (wc := []) hD hS hA [] rfl
        refine va_calli (va_runS (As := [.long l2, .int l4]) (rest := [.int u1]) ⟨hx, hb, hml, hown, hts⟩ (c_Row_digitAt l dC dI cL cI H.size l2 l4 u2 hu2) (va_cwS 2 hts (zgS wk94 wk95 wk35 wk100) rfl rfl rfl zh_Row_digitAt.2 ⟨Nat.le_of_ble_eq_true rfl, Nat.le_of_ble_eq_true rfl⟩) ⟨fun a U g mk q => by obtain ⟨q0, q1, qP, qK, qD⟩ := q; exact ⟨q0, q1, qP, va_K.moved (u := U) (U := U.calling g mk a) (Vm.Alike.refl U.vm) qK, qD⟩, fun U hU hW => ⟨rfl, by rw [hU], by rw [hU]; exact hPc, va_K.moved hW.alike hK, hDc.weaken (fun _ _ _ _ => trivial)⟩⟩ rfl rfl hl.1 rfl (lv_room (Nat.le_of_ble_eq_true rfl)) zd_Row_lengthInCommon_19 ⟨Nat.le_of_ble_eq_true rfl, Nat.le_of_ble_eq_true rfl⟩) hS (fun q _ h => hFc q h) hFc (fun r1 _ t H1 locs ht hvm hw hB hz1 hk1 hS => ?_)
        subst hw
        obtain ⟨hP1, hD1⟩ := hB
        rw [ht] at hP1
        have hP := hP1
        have hD := hD1.weaken (fun _ q _ h => hFc q.1 h)
        generalize H1 = H at hP hS ⊢
        refine lv_icmp_ne (tgt := 31) hx hb zd_Row_lengthInCommon_22 (by decide) (fun hc => ?_) (fun hc => ?_)
        · rw [if_neg hc] at hm
          obtain rfl := Option.some.inj hm
          exact K ls H locs (lv_sub hl [0, 1, 2] rfl) hP hD hS
        · rw [if_pos hc] at hm
          refine lv_iinc (k := 2) (v := (l4 + 1)) (lv' := [(4, .int ((l4 + 1))), (0, .long l0), (2, .long l2)]) hx hb zd_Row_lengthInCommon_25 hl rfl rfl (by decide) rfl (fun ls hl => ?_)
          refine lv_goto (tgt := 3) hx hb zd_Row_lengthInCommon_28 (by decide) ?_
          exact ih l0 l2 ((l4 + 1)) ls H locs uu (lv_sub hl [1, 2, 0] rfl) hP hD hS hm K
  unfold m_Row_lengthInCommon at hm
  refine lv_iconst (v := 0) hx hb zd_Row_lengthInCommon_0 (by decide) ?_
  refine lv_istore (lv' := [(4, .int 0), (0, .long x0), (2, .long x1)]) hx hb zd_Row_lengthInCommon_1 hl (by decide) rfl (fun ls hl => ?_)
  obtain ⟨u3, hu3, hm⟩ := Option.bind_eq_some_iff.mp hm
  refine L3 100 x0 x1 0 ls _ _ u3 (lv_sub hl [1, 2, 0] rfl) hP hD hS hu3 (fun ls H locs hl hP hD hS => ?_)
  refine lv_iload hx hb zd_Row_lengthInCommon_31 (lv_at hl 2 rfl) ?_
  obtain rfl := Option.some.inj hm
  exact KR 33 ls _ _ zd_Row_lengthInCommon_33 hP hD hS
set_option maxHeartbeats 4000000 in
set_option maxRecDepth 100000 in
theorem c_Row_lengthOf (l : Launch) (dC : Nat → ClassId) (dI : Nat → Nat → Nat) (cL cI : ClassId) (sz : Nat) (x0 : Int64) (u : Int32) (hm : m_Row_lengthOf x0 = some u) : Met l zy_Row_lengthOf zw_Row_lengthOf ({ frames := 1, cells := 0, slots := 0, locals := 22 }) (va_Pc [.long x0] (fun U => U.heap.size = sz ∧ va_P (dC, dI) zCl [] U.heap ∧ va_K (dC, dI) zCl [(cL, .long), (cI, .int)] U ∧ va_D (fun _ => True) [])) (va_Qi (fun (r : Int32) (_ : Unit) => u = r) (fun _ t => va_P (dC, dI) zCl [] t.heap ∧ va_D (va_A [] sz) []) (va_A [] sz)) 0 0 (va_A [] sz) := by
  refine Met.ofW (cc := zc_Row_lengthOf) (maxL := 3) (ret := (some .int)) (by decide) rfl ?_
  intro p e s m args below meth c s₁ B hml hv
  obtain ⟨rfl, hsz, hP, hK, hD0⟩ := hv
  have hx := B.exec
  have hb := B.bytes
  have hr := B.returns
  have hts0 := atoms_spec (ws := zw_Row_lengthOf) B.pre
  have hts : ∀ w ∈ WSg, w.before _ s = true := fun w h => hts0 w (List.mem_cons_of_mem _ h)
  clear hts0
  have hown : s.vm.findClass zR_Row = some m.cls := findClass_of_methodNamed B.named
  have hlocks := B.notSynchronized
  subst hsz
  have hD := hD0.self (sz := s.heap.size)
  generalize hAe : va_A [] s.heap.size = A at hD ⊢
  have hA : ∀ q : Nat, s.heap.size ≤ q → A q := fun q h => by rw [← hAe]; exact Or.inr h
  have hS : va_S A s.heap s.heap [] := va_S.rf
  have hP : va_P (dC, dI) zCl [] s.heap := hP
  have hl := lv_entry ([.long x0]) (n := 3) (Nat.le_of_ble_eq_true rfl)
  rw [lg_entry_eq]
  generalize (lg_sl ([.long x0]) ++ List.replicate (3 - (lg_sl ([.long x0])).length) Slot.unset).toArray = ls at hl ⊢
  have hl : lv_has ls 3 [(0, .long x0)] := hl
  have KR : ∀ (pc : Nat) (ls : Array Slot) (H : Heap) (locs : List Loc), decode zc_Row_lengthOf pc = .ok (.ireturn, 1) → va_P (dC, dI) zCl [] H → va_D A [] → va_S A s.heap H locs → W p l e (headSpec zw_Row_lengthOf ({ frames := 1, cells := 0, slots := 0, locals := 22 })).room s m ([.long x0] : List Value).toArray below meth c H locs 0 0 (MQ below (va_Qi (fun (r : Int32) (_ : Unit) => u = r) (fun _ t => va_P (dC, dI) zCl [] t.heap ∧ va_D A []) A) ([.long x0] : List Value).toArray s 0 0 A) (F0 m pc ls [.int u]) := by
    intro pc ls H locs hd hP9 hD9 hS
    exact W.iret (v := u) hx hb hr (fun t ht hW => ⟨⟨u, (), rfl, rfl, by rw [ht]; exact hP9, hD9⟩, hS.F ht⟩) hS.2.2 hd
  generalize (MQ below (va_Qi (fun (r : Int32) (_ : Unit) => u = r) (fun _ t => va_P (dC, dI) zCl [] t.heap ∧ va_D A []) A) ([.long x0] : List Value).toArray s 0 0 A) = Q at KR ⊢
  have L2 : ∀ (n : Nat) (l0 : Int64) (l2 : Int32) (ls : Array Slot) (H : Heap) (locs : List Loc) (uu : (Int32)), lv_has ls 3 [(0, .long l0), (2, .int l2)] → va_P (dC, dI) zCl [] H → va_D A [] → va_S A s.heap H locs → m_Row_lengthOf_l2 l0 n l2 = some uu → (∀ (ls : Array Slot) (H : Heap) (locs : List Loc), lv_has ls 3 [(0, .long l0), (2, .int uu)] → va_P (dC, dI) zCl [] H → va_D A [] → va_S A s.heap H locs → W p l e (headSpec zw_Row_lengthOf ({ frames := 1, cells := 0, slots := 0, locals := 22 })).room s m ([.long x0] : List Value).toArray below meth c H locs 0 0 Q (F0 m 22 ls [])) → W p l e (headSpec zw_Row_lengthOf ({ frames := 1, cells := 0, slots := 0, locals := 22 })).room s m ([.long x0] : List Value).toArray below meth c H locs 0 0 Q (F0 m 2 ls []) := by
    intro n
    induction n with
    | zero =>
      intro l0 l2 ls H locs uu hl hP hD hS hm K
      rw [m_Row_lengthOf_l2] at hm
      cases hm
    | succ n ih =>
      intro l0 l2 ls H locs uu hl hP hD hS hm K
      rw [m_Row_lengthOf_l2] at hm
      refine lv_iload_n hx hb zd_Row_lengthOf_2 rfl (lv_at hl 1 rfl) ?_
      refine lv_bipush (v := 7) hx hb zd_Row_lengthOf_3 (by decide) ?_
      refine lv_icmp_ge (tgt := 22) hx hb zd_Row_lengthOf_5 (by decide) (fun hc => ?_) (fun hc => ?_)
      · rw [if_pos hc] at hm
        obtain rfl := Option.some.inj hm
        exact K ls H locs (lv_sub hl [0, 1] rfl) hP hD hS
      · rw [if_neg hc] at hm
        refine lv_lload_n hx hb zd_Row_lengthOf_8 rfl (lv_at hl 0 rfl) ?_
        refine lv_iload_n hx hb zd_Row_lengthOf_9 rfl (lv_at hl 1 rfl) ?_
        obtain ⟨u1, hu1, hm⟩ := Option.bind_eq_some_iff.mp hm
        have hPc := hP
        have hDc := hD
        have hFc := va_free (wc := []) hD hS hA [] rfl
        refine va_calli (va_runS (As := [.long l0, .int l2]) (rest := []) ⟨hx, hb, hml, hown, hts⟩ (c_Row_digitAt l dC dI cL cI H.size l0 l2 u1 hu1) (va_cwS 2 hts (zgS wk94 wk95 wk35 wk100) rfl rfl rfl zh_Row_digitAt.2 ⟨Nat.le_of_ble_eq_true rfl, Nat.le_of_ble_eq_true rfl⟩) ⟨fun a U g mk q => by obtain ⟨q0, q1, qP, qK, qD⟩ := q; exact ⟨q0, q1, qP, va_K.moved (u := U) (U := U.calling g mk a) (Vm.Alike.refl U.vm) qK, qD⟩, fun U hU hW => ⟨rfl, by rw [hU], by rw [hU]; exact hPc, va_K.moved hW.alike hK, hDc.weaken (fun _ _ _ _ => trivial)⟩⟩ rfl rfl hl.1 rfl (lv_room (Nat.le_of_ble_eq_true rfl)) zd_Row_lengthOf_10 ⟨Nat.le_of_ble_eq_true rfl, Nat.le_of_ble_eq_true rfl⟩) hS (fun q _ h => hFc q h) hFc (fun r1 _ t H1 locs ht hvm hw hB hz1 hk1 hS => ?_)
        subst hw
        obtain ⟨hP1, hD1⟩ := hB
        rw [ht] at hP1
        have hP := hP1
        have hD := hD1.weaken (fun _ q _ h => hFc q.1 h)
        generalize H1 = H at hP hS ⊢
        refine lv_if_eq (tgt := 22) hx hb zd_Row_lengthOf_13 (by decide) (fun hc => ?_) (fun hc => ?_)
        · rw [if_pos hc] at hm
          obtain rfl := Option.some.inj hm
          exact K ls H locs (lv_sub hl [0, 1] rfl) hP hD hS
        · rw [if_neg hc] at hm
          refine lv_iinc (k := 1) (v := (l2 + 1)) (lv' := [(2, .int ((l2 + 1))), (0, .long l0)]) hx hb zd_Row_lengthOf_16 hl rfl rfl (by decide) rfl (fun ls hl => ?_)
          refine lv_goto (tgt := 2) hx hb zd_Row_lengthOf_19 (by decide) ?_
          exact ih l0 ((l2 + 1)) ls H locs uu (lv_sub hl [1, 0] rfl) hP hD hS hm K
  unfold m_Row_lengthOf at hm
  refine lv_iconst (v := 0) hx hb zd_Row_lengthOf_0 (by decide) ?_
  refine lv_istore_n (lv' := [(2, .int 0), (0, .long x0)]) hx hb zd_Row_lengthOf_1 rfl hl (by decide) rfl (fun ls hl => ?_)
  obtain ⟨u2, hu2, hm⟩ := Option.bind_eq_some_iff.mp hm
  refine L2 100 x0 0 ls _ _ u2 (lv_sub hl [1, 0] rfl) hP hD hS hu2 (fun ls H locs hl hP hD hS => ?_)
  refine lv_iload_n hx hb zd_Row_lengthOf_22 rfl (lv_at hl 1 rfl) ?_
  obtain rfl := Option.some.inj hm
  exact KR 23 ls _ _ zd_Row_lengthOf_23 hP hD hS
set_option maxHeartbeats 4000000 in
set_option maxRecDepth 100000 in
theorem c_Row_wordOf (l : Launch) (dC : Nat → ClassId) (dI : Nat → Nat → Nat) (cL cI : ClassId) (sz : Nat) (x0 : Int64) (u : Int64) (hm : m_Row_wordOf x0 = some u) : Met l zy_Row_wordOf zw_Row_wordOf ({ frames := 2, cells := 0, slots := 0, locals := 44 }) (va_Pc [.long x0] (fun U => U.heap.size = sz ∧ va_P (dC, dI) zCl [] U.heap ∧ va_K (dC, dI) zCl [(cL, .long), (cI, .int)] U ∧ va_D (fun _ => True) [])) (va_Ql (fun (r : Int64) (_ : Unit) => u = r) (fun _ t => va_P (dC, dI) zCl [] t.heap ∧ va_D (va_A [] sz) []) (va_A [] sz)) 0 0 (va_A [] sz) := by
  refine Met.ofW (cc := zc_Row_wordOf) (maxL := 6) (ret := (some .long)) (by decide) rfl ?_
  intro p e s m args below meth c s₁ B hml hv
  obtain ⟨rfl, hsz, hP, hK, hD0⟩ := hv
  have hx := B.exec
  have hb := B.bytes
  have hr := B.returns
  have hts0 := atoms_spec (ws := zw_Row_wordOf) B.pre
  have hts : ∀ w ∈ WSg, w.before _ s = true := fun w h => hts0 w (List.mem_cons_of_mem _ h)
  clear hts0
  have hown : s.vm.findClass zR_Row = some m.cls := findClass_of_methodNamed B.named
  have hlocks := B.notSynchronized
  subst hsz
  have hD := hD0.self (sz := s.heap.size)
  generalize hAe : va_A [] s.heap.size = A at hD ⊢
  have hA : ∀ q : Nat, s.heap.size ≤ q → A q := fun q h => by rw [← hAe]; exact Or.inr h
  have hS : va_S A s.heap s.heap [] := va_S.rf
  have hP : va_P (dC, dI) zCl [] s.heap := hP
  have hl := lv_entry ([.long x0]) (n := 6) (Nat.le_of_ble_eq_true rfl)
  rw [lg_entry_eq]
  generalize (lg_sl ([.long x0]) ++ List.replicate (6 - (lg_sl ([.long x0])).length) Slot.unset).toArray = ls at hl ⊢
  have hl : lv_has ls 6 [(0, .long x0)] := hl
  have KR : ∀ (pc : Nat) (ls : Array Slot) (H : Heap) (locs : List Loc), decode zc_Row_wordOf pc = .ok (.lreturn, 1) → va_P (dC, dI) zCl [] H → va_D A [] → va_S A s.heap H locs → W p l e (headSpec zw_Row_wordOf ({ frames := 2, cells := 0, slots := 0, locals := 44 })).room s m ([.long x0] : List Value).toArray below meth c H locs 0 0 (MQ below (va_Ql (fun (r : Int64) (_ : Unit) => u = r) (fun _ t => va_P (dC, dI) zCl [] t.heap ∧ va_D A []) A) ([.long x0] : List Value).toArray s 0 0 A) (F0 m pc ls [.long u]) := by
    intro pc ls H locs hd hP9 hD9 hS
    exact W.lret (v := u) hx hb hr (fun t ht hW => ⟨⟨u, (), rfl, rfl, by rw [ht]; exact hP9, hD9⟩, hS.F ht⟩) hS.2.2 hd
  generalize (MQ below (va_Ql (fun (r : Int64) (_ : Unit) => u = r) (fun _ t => va_P (dC, dI) zCl [] t.heap ∧ va_D A []) A) ([.long x0] : List Value).toArray s 0 0 A) = Q at KR ⊢
  have L10 : ∀ (n : Nat) (l0 : Int64) (l2 : Int32) (l3 : Int64) (l5 : Int32) (ls : Array Slot) (H : Heap) (locs : List Loc) (uu : (Int64 × Int32)), lv_has ls 6 [(0, .long l0), (2, .int l2), (3, .long l3), (5, .int l5)] → va_P (dC, dI) zCl [] H → va_D A [] → va_S A s.heap H locs → m_Row_wordOf_l10 l0 l2 n l3 l5 = some uu → (∀ (ls : Array Slot) (H : Heap) (locs : List Loc), lv_has ls 6 [(0, .long l0), (2, .int l2), (3, .long uu.1), (5, .int uu.2)] → va_P (dC, dI) zCl [] H → va_D A [] → va_S A s.heap H locs → W p l e (headSpec zw_Row_wordOf ({ frames := 2, cells := 0, slots := 0, locals := 44 })).room s m ([.long x0] : List Value).toArray below meth c H locs 0 0 Q (F0 m 40 ls [])) → W p l e (headSpec zw_Row_wordOf ({ frames := 2, cells := 0, slots := 0, locals := 44 })).room s m ([.long x0] : List Value).toArray below meth c H locs 0 0 Q (F0 m 10 ls []) := by
    intro n
    induction n with
    | zero =>
      intro l0 l2 l3 l5 ls H locs uu hl hP hD hS hm K
      rw [m_Row_wordOf_l10] at hm
      cases hm
    | succ n ih =>
      intro l0 l2 l3 l5 ls H locs uu hl hP hD hS hm K
      rw [m_Row_wordOf_l10] at hm
      refine lv_iload hx hb zd_Row_wordOf_10 (lv_at hl 3 rfl) ?_
      refine lv_iload_n hx hb zd_Row_wordOf_12 rfl (lv_at hl 1 rfl) ?_
      refine lv_icmp_ge (tgt := 40) hx hb zd_Row_wordOf_13 (by decide) (fun hc => ?_) (fun hc => ?_)
      · rw [if_pos hc] at hm
        obtain rfl := Option.some.inj hm
        exact K ls H locs (lv_sub hl [0, 1, 2, 3] rfl) hP hD hS
      · rw [if_neg hc] at hm
        refine lv_lload_n hx hb zd_Row_wordOf_16 rfl (lv_at hl 2 rfl) ?_
        refine lv_lload_n hx hb zd_Row_wordOf_17 rfl (lv_at hl 0 rfl) ?_
        refine lv_iload hx hb zd_Row_wordOf_18 (lv_at hl 3 rfl) ?_
        obtain ⟨u2, hu2, hm⟩ := Option.bind_eq_some_iff.mp hm
        have hPc := hP
        have hDc := hD
        have hFc := va_free (wc := []) hD hS hA [] rfl
        refine va_calli (va_runS (As := [.long l0, .int l5]) (rest := [.long l3]) ⟨hx, hb, hml, hown, hts⟩ (c_Row_digitAt l dC dI cL cI H.size l0 l5 u2 hu2) (va_cwS 2 hts (zgS wk94 wk95 wk35 wk100) rfl rfl rfl zh_Row_digitAt.2 ⟨Nat.le_of_ble_eq_true rfl, Nat.le_of_ble_eq_true rfl⟩) ⟨fun a U g mk q => by obtain ⟨q0, q1, qP, qK, qD⟩ := q; exact ⟨q0, q1, qP, va_K.moved (u := U) (U := U.calling g mk a) (Vm.Alike.refl U.vm) qK, qD⟩, fun U hU hW => ⟨rfl, by rw [hU], by rw [hU]; exact hPc, va_K.moved hW.alike hK, hDc.weaken (fun _ _ _ _ => trivial)⟩⟩ rfl rfl hl.1 rfl (lv_room (Nat.le_of_ble_eq_true rfl)) zd_Row_wordOf_20 ⟨Nat.le_of_ble_eq_true rfl, Nat.le_of_ble_eq_true rfl⟩) hS (fun q _ h => hFc q h) hFc (fun r1 _ t H1 locs ht hvm hw hB hz1 hk1 hS => ?_)
        subst hw
        obtain ⟨hP1, hD1⟩ := hB
        rw [ht] at hP1
        have hP := hP1
        have hD := hD1.weaken (fun _ q _ h => hFc q.1 h)
        generalize H1 = H at hP hS ⊢
        refine lv_iconst (v := 1) hx hb zd_Row_wordOf_23 (by decide) ?_
        refine lv_isub hx hb zd_Row_wordOf_24 ?_
        refine lv_i2l (v := ((u2 - 1) : Int32).toInt64) hx hb zd_Row_wordOf_25 rfl ?_
        refine lv_bipush (v := 8) hx hb zd_Row_wordOf_26 (by decide) ?_
        refine lv_iload hx hb zd_Row_wordOf_28 (lv_at hl 3 rfl) ?_
        refine lv_imul hx hb zd_Row_wordOf_30 ?_
        refine lv_lshl (v := (((u2 - 1) : Int32).toInt64 <<< (((8 * l5) : Int32).toInt64 &&& 63))) hx hb zd_Row_wordOf_31 rfl ?_
        refine lv_lor hx hb zd_Row_wordOf_32 ?_
        refine lv_lstore_n (lv' := [(3, .long ((l3 ||| (((u2 - 1) : Int32).toInt64 <<< (((8 * l5) : Int32).toInt64 &&& 63))))), (0, .long l0), (2, .int l2), (5, .int l5)]) hx hb zd_Row_wordOf_33 rfl hl (by decide) rfl (fun ls hl => ?_)
        refine lv_iinc (k := 3) (v := (l5 + 1)) (lv' := [(5, .int ((l5 + 1))), (3, .long ((l3 ||| (((u2 - 1) : Int32).toInt64 <<< (((8 * l5) : Int32).toInt64 &&& 63))))), (0, .long l0), (2, .int l2)]) hx hb zd_Row_wordOf_34 hl rfl rfl (by decide) rfl (fun ls hl => ?_)
        refine lv_goto (tgt := 10) hx hb zd_Row_wordOf_37 (by decide) ?_
        exact ih l0 l2 ((l3 ||| (((u2 - 1) : Int32).toInt64 <<< (((8 * l5) : Int32).toInt64 &&& 63)))) ((l5 + 1)) ls H locs uu (lv_sub hl [2, 3, 1, 0] rfl) hP hD hS hm K
  unfold m_Row_wordOf at hm
  refine lv_lload_n hx hb zd_Row_wordOf_0 rfl (lv_at hl 0 rfl) ?_
  obtain ⟨u1, hu1, hm⟩ := Option.bind_eq_some_iff.mp hm
  have hPc := hP
  have hDc := hD
  have hFc := va_free (wc := []) hD hS hA [] rfl
  refine va_calli (va_runS (As := [.long x0]) (rest := []) ⟨hx, hb, hml, hown, hts⟩ (c_Row_lengthOf l dC dI cL cI s.heap.size x0 u1 hu1) (va_cwS 1 hts (zgS wk98 wk99 wk35 wk93) rfl rfl rfl zh_Row_lengthOf.2 ⟨Nat.le_of_ble_eq_true rfl, Nat.le_of_ble_eq_true rfl⟩) ⟨fun a U g mk q => by obtain ⟨q0, q1, qP, qK, qD⟩ := q; exact ⟨q0, q1, qP, va_K.moved (u := U) (U := U.calling g mk a) (Vm.Alike.refl U.vm) qK, qD⟩, fun U hU hW => ⟨rfl, by rw [hU], by rw [hU]; exact hPc, va_K.moved hW.alike hK, hDc.weaken (fun _ _ _ _ => trivial)⟩⟩ rfl rfl hl.1 rfl (lv_room (Nat.le_of_ble_eq_true rfl)) zd_Row_wordOf_1 ⟨Nat.le_of_ble_eq_true rfl, Nat.le_of_ble_eq_true rfl⟩) hS (fun q _ h => hFc q h) hFc (fun r1 _ t H1 locs ht hvm hw hB hz1 hk1 hS => ?_)
  subst hw
  obtain ⟨hP1, hD1⟩ := hB
  rw [ht] at hP1
  have hP := hP1
  have hD := hD1.weaken (fun _ q _ h => hFc q.1 h)
  generalize H1 = H at hP hS ⊢
  refine lv_istore_n (lv' := [(2, .int u1), (0, .long x0)]) hx hb zd_Row_wordOf_4 rfl hl (by decide) rfl (fun ls hl => ?_)
  refine lv_lconst (v := 0) hx hb zd_Row_wordOf_5 (by decide) ?_
  refine lv_lstore_n (lv' := [(3, .long 0), (2, .int u1), (0, .long x0)]) hx hb zd_Row_wordOf_6 rfl hl (by decide) rfl (fun ls hl => ?_)
  refine lv_iconst (v := 0) hx hb zd_Row_wordOf_7 (by decide) ?_
  refine lv_istore (lv' := [(5, .int 0), (3, .long 0), (2, .int u1), (0, .long x0)]) hx hb zd_Row_wordOf_8 hl (by decide) rfl (fun ls hl => ?_)
  obtain ⟨u3, hu3, hm⟩ := Option.bind_eq_some_iff.mp hm
  refine L10 100 x0 u1 0 0 ls _ _ u3 (lv_sub hl [3, 2, 1, 0] rfl) hP hD hS hu3 (fun ls H locs hl hP hD hS => ?_)
  refine lv_lload_n hx hb zd_Row_wordOf_40 rfl (lv_at hl 2 rfl) ?_
  obtain rfl := Option.some.inj hm
  exact KR 41 ls _ _ zd_Row_wordOf_41 hP hD hS
