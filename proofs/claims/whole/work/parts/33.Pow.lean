set_option maxHeartbeats 4000000 in
set_option maxRecDepth 100000 in
theorem c_Power_isSupplied (l : Launch) (dC : Nat → ClassId) (dI : Nat → Nat → Nat) (cL cI : ClassId) (h_a : Nat) (sz : Nat) (a_supplied : Int32) (a_writesLeft : Int32) (u : Int32) (hm : m_Power_isSupplied a_supplied = some u) (hz0 : narrow .boolean (.int a_supplied) = .int a_supplied) : Met l zy_Pow_isSupplied zw_Pow_isSupplied ({ frames := 0, cells := 0, slots := 0, locals := 0 }) (va_Pc [.ref h_a] (fun U => U.heap.size = sz ∧ va_P (dC, dI) zCl [(h_a, .inr (1, [.int a_supplied, .int a_writesLeft]))] U.heap ∧ va_K (dC, dI) zCl [(cL, .long), (cI, .int)] U ∧ va_D (fun _ => True) [(h_a, .inr (1, [.int a_supplied, .int a_writesLeft]))])) (va_Qi (fun (r : Int32) (_ : Unit) => u = r) (fun _ t => va_P (dC, dI) zCl [(h_a, .inr (1, [.int a_supplied, .int a_writesLeft]))] t.heap ∧ va_D (va_A [(h_a, .inr (1, [.int a_supplied, .int a_writesLeft]))] sz) [(h_a, .inr (1, [.int a_supplied, .int a_writesLeft]))]) (va_A [(h_a, .inr (1, [.int a_supplied, .int a_writesLeft]))] sz)) 0 0 (va_A [(h_a, .inr (1, [.int a_supplied, .int a_writesLeft]))] sz) := by
  refine Met.ofW (cc := zc_Pow_isSupplied) (maxL := 1) (ret := (some .boolean)) (by decide) rfl ?_
  intro p e s m args below meth c s₁ B hml hv
  obtain ⟨rfl, hsz, hP, hK, hD0⟩ := hv
  have hx := B.exec
  have hb := B.bytes
  have hr := B.returns
  have hts0 := atoms_spec (ws := zw_Pow_isSupplied) B.pre
  have hts : ∀ w ∈ WSg, w.before _ s = true := fun w h => hts0 w (List.mem_cons_of_mem _ h)
  clear hts0
  have hown : s.vm.findClass zR_Pow = some m.cls := findClass_of_methodNamed B.named
  have hlocks := B.notSynchronized
  subst hsz
  have hD := hD0.self (sz := s.heap.size)
  generalize hAe : va_A [(h_a, .inr (1, [.int a_supplied, .int a_writesLeft]))] s.heap.size = A at hD ⊢
  have hA : ∀ q : Nat, s.heap.size ≤ q → A q := fun q h => by rw [← hAe]; exact Or.inr h
  have hS : va_S A s.heap s.heap [] := va_S.rf
  have hP : va_P (dC, dI) zCl [(h_a, .inr (1, [.int a_supplied, .int a_writesLeft]))] s.heap := hP
  have hl := lv_entry ([.ref h_a]) (n := 1) (Nat.le_of_ble_eq_true rfl)
  rw [lg_entry_eq]
  generalize (lg_sl ([.ref h_a]) ++ List.replicate (1 - (lg_sl ([.ref h_a])).length) Slot.unset).toArray = ls at hl ⊢
  have hl : lv_has ls 1 [(0, .ref h_a)] := hl
  have KR : ∀ (pc : Nat) (ls : Array Slot) (H : Heap) (locs : List Loc), decode zc_Pow_isSupplied pc = .ok (.ireturn, 1) → narrow .boolean (.int u) = .int u → va_P (dC, dI) zCl [(h_a, .inr (1, [.int a_supplied, .int a_writesLeft]))] H → va_D A [(h_a, .inr (1, [.int a_supplied, .int a_writesLeft]))] → va_S A s.heap H locs → W p l e (headSpec zw_Pow_isSupplied ({ frames := 0, cells := 0, slots := 0, locals := 0 })).room s m ([.ref h_a] : List Value).toArray below meth c H locs 0 0 (MQ below (va_Qi (fun (r : Int32) (_ : Unit) => u = r) (fun _ t => va_P (dC, dI) zCl [(h_a, .inr (1, [.int a_supplied, .int a_writesLeft]))] t.heap ∧ va_D A [(h_a, .inr (1, [.int a_supplied, .int a_writesLeft]))]) A) ([.ref h_a] : List Value).toArray s 0 0 A) (F0 m pc ls [.int u]) := by
    intro pc ls H locs hd hz hP9 hD9 hS
    exact W.zret (v := u) (ty := .boolean) hx hb hr hz (fun t ht hW => ⟨⟨u, (), rfl, rfl, by rw [ht]; exact hP9, hD9⟩, hS.F ht⟩) hS.2.2 hd
  generalize (MQ below (va_Qi (fun (r : Int32) (_ : Unit) => u = r) (fun _ t => va_P (dC, dI) zCl [(h_a, .inr (1, [.int a_supplied, .int a_writesLeft]))] t.heap ∧ va_D A [(h_a, .inr (1, [.int a_supplied, .int a_writesLeft]))]) A) ([.ref h_a] : List Value).toArray s 0 0 A) = Q at KR ⊢
  unfold m_Power_isSupplied at hm
  refine lv_aload_n hx hb zd_Pow_isSupplied_0 rfl (lv_at hl 0 rfl) ?_
  refine va_get (D := (dC, dI)) (ci := 1) (v := .int a_supplied) (C := zR_Pow) (T := zT_Pow) (N := 2) hx hb hts zu_Pow hown hK hP 0 rfl rfl 0 (by decide) (hts _ wk77) (fun _ h9 => h9) rfl zd_Pow_isSupplied_1 ?_
  obtain rfl := Option.some.inj hm
  exact KR 4 ls _ _ zd_Pow_isSupplied_4 hz0 hP hD hS
set_option maxHeartbeats 4000000 in
set_option maxRecDepth 100000 in
theorem c_Power_allow (l : Launch) (dC : Nat → ClassId) (dI : Nat → Nat → Nat) (cL cI : ClassId) (h_a : Nat) (sz : Nat) (x0 : Int32) (a_supplied : Int32) (a_writesLeft : Int32) (u : Int32) (hm : m_Power_allow x0 = some u) : Met l zy_Pow_allow zw_Pow_allow ({ frames := 0, cells := 0, slots := 0, locals := 0 }) (va_Pc [.ref h_a, .int x0] (fun U => U.heap.size = sz ∧ va_P (dC, dI) zCl [(h_a, .inr (1, [.int a_supplied, .int a_writesLeft]))] U.heap ∧ va_K (dC, dI) zCl [(cL, .long), (cI, .int)] U ∧ va_D (fun _ => True) [(h_a, .inr (1, [.int a_supplied, .int a_writesLeft]))])) (va_Qv (fun _ : Unit => True) (fun _ t => va_P (dC, dI) zCl [(h_a, .inr (1, [.int a_supplied, .int u]))] t.heap ∧ va_D (va_A [(h_a, .inr (1, [.int a_supplied, .int a_writesLeft]))] sz) [(h_a, .inr (1, [.int a_supplied, .int u]))]) (va_A [(h_a, .inr (1, [.int a_supplied, .int a_writesLeft]))] sz)) 0 0 (va_A [(h_a, .inr (1, [.int a_supplied, .int a_writesLeft]))] sz) := by
  refine Met.ofW (cc := zc_Pow_allow) (maxL := 2) (ret := none) (by decide) rfl ?_
  intro p e s m args below meth c s₁ B hml hv
  obtain ⟨rfl, hsz, hP, hK, hD0⟩ := hv
  have hx := B.exec
  have hb := B.bytes
  have hr := B.returns
  have hts0 := atoms_spec (ws := zw_Pow_allow) B.pre
  have hts : ∀ w ∈ WSg, w.before _ s = true := fun w h => hts0 w (List.mem_cons_of_mem _ h)
  clear hts0
  have hown : s.vm.findClass zR_Pow = some m.cls := findClass_of_methodNamed B.named
  have hlocks := B.notSynchronized
  subst hsz
  have hD := hD0.self (sz := s.heap.size)
  generalize hAe : va_A [(h_a, .inr (1, [.int a_supplied, .int a_writesLeft]))] s.heap.size = A at hD ⊢
  have hA : ∀ q : Nat, s.heap.size ≤ q → A q := fun q h => by rw [← hAe]; exact Or.inr h
  have hS : va_S A s.heap s.heap [] := va_S.rf
  have hP : va_P (dC, dI) zCl [(h_a, .inr (1, [.int a_supplied, .int a_writesLeft]))] s.heap := hP
  have hl := lv_entry ([.ref h_a, .int x0]) (n := 2) (Nat.le_of_ble_eq_true rfl)
  rw [lg_entry_eq]
  generalize (lg_sl ([.ref h_a, .int x0]) ++ List.replicate (2 - (lg_sl ([.ref h_a, .int x0])).length) Slot.unset).toArray = ls at hl ⊢
  have hl : lv_has ls 2 [(0, .ref h_a), (1, .int x0)] := hl
  have KR : ∀ (pc : Nat) (ls : Array Slot) (H : Heap) (locs : List Loc), decode zc_Pow_allow pc = .ok (.return_, 1) → va_P (dC, dI) zCl [(h_a, .inr (1, [.int a_supplied, .int u]))] H → va_D A [(h_a, .inr (1, [.int a_supplied, .int u]))] → va_S A s.heap H locs → W p l e (headSpec zw_Pow_allow ({ frames := 0, cells := 0, slots := 0, locals := 0 })).room s m ([.ref h_a, .int x0] : List Value).toArray below meth c H locs 0 0 (MQ below (va_Qv (fun _ : Unit => True) (fun _ t => va_P (dC, dI) zCl [(h_a, .inr (1, [.int a_supplied, .int u]))] t.heap ∧ va_D A [(h_a, .inr (1, [.int a_supplied, .int u]))]) A) ([.ref h_a, .int x0] : List Value).toArray s 0 0 A) (F0 m pc ls []) := by
    intro pc ls H locs hd hP9 hD9 hS
    exact W.vret hx hb hr (fun t ht hW => ⟨⟨(), rfl, trivial, by rw [ht]; exact hP9, hD9⟩, hS.F ht⟩) hS.2.2 hd
  generalize (MQ below (va_Qv (fun _ : Unit => True) (fun _ t => va_P (dC, dI) zCl [(h_a, .inr (1, [.int a_supplied, .int u]))] t.heap ∧ va_D A [(h_a, .inr (1, [.int a_supplied, .int u]))]) A) ([.ref h_a, .int x0] : List Value).toArray s 0 0 A) = Q at KR ⊢
  unfold m_Power_allow at hm
  refine lv_aload_n hx hb zd_Pow_allow_0 rfl (lv_at hl 0 rfl) ?_
  refine lv_iload_n hx hb zd_Pow_allow_1 rfl (lv_at hl 1 rfl) ?_
  refine va_put (D := (dC, dI)) (ci := 1) (v := .int x0) (ty := .int) (C := zR_Pow) (T := zT_Pow) (N := 2) hx hb hts zu_Pow zt_Pow zt_Pow_ok zn_Pow hown hK hP hD hS 0 rfl rfl 1 (by decide) (hts _ wk78) (fun _ h9 => h9) rfl (by decide +kernel) rfl rfl (Nat.le_of_ble_eq_true rfl) zd_Pow_allow_2 (fun H locs hP hD hS => ?_)
  have hP : va_P (dC, dI) zCl [(h_a, .inr (1, [.int a_supplied, .int x0]))] H := hP
  have hD : va_D A [(h_a, .inr (1, [.int a_supplied, .int x0]))] := hD
  obtain rfl := Option.some.inj hm
  exact KR 5 ls _ _ zd_Pow_allow_5 hP hD hS
set_option maxHeartbeats 4000000 in
set_option maxRecDepth 100000 in
theorem c_Power_restore (l : Launch) (dC : Nat → ClassId) (dI : Nat → Nat → Nat) (cL cI : ClassId) (h_a : Nat) (sz : Nat) (a_supplied : Int32) (a_writesLeft : Int32) (u : Int32 × Int32) (hm : m_Power_restore  = some u) : Met l zy_Pow_restore zw_Pow_restore ({ frames := 0, cells := 0, slots := 0, locals := 0 }) (va_Pc [.ref h_a] (fun U => U.heap.size = sz ∧ va_P (dC, dI) zCl [(h_a, .inr (1, [.int a_supplied, .int a_writesLeft]))] U.heap ∧ va_K (dC, dI) zCl [(cL, .long), (cI, .int)] U ∧ va_D (fun _ => True) [(h_a, .inr (1, [.int a_supplied, .int a_writesLeft]))])) (va_Qv (fun _ : Unit => True) (fun _ t => va_P (dC, dI) zCl [(h_a, .inr (1, [.int u.1, .int u.2]))] t.heap ∧ va_D (va_A [(h_a, .inr (1, [.int a_supplied, .int a_writesLeft]))] sz) [(h_a, .inr (1, [.int u.1, .int u.2]))]) (va_A [(h_a, .inr (1, [.int a_supplied, .int a_writesLeft]))] sz)) 0 0 (va_A [(h_a, .inr (1, [.int a_supplied, .int a_writesLeft]))] sz) := by
  refine Met.ofW (cc := zc_Pow_restore) (maxL := 1) (ret := none) (by decide) rfl ?_
  intro p e s m args below meth c s₁ B hml hv
  obtain ⟨rfl, hsz, hP, hK, hD0⟩ := hv
  have hx := B.exec
  have hb := B.bytes
  have hr := B.returns
  have hts0 := atoms_spec (ws := zw_Pow_restore) B.pre
  have hts : ∀ w ∈ WSg, w.before _ s = true := fun w h => hts0 w (List.mem_cons_of_mem _ h)
  clear hts0
  have hown : s.vm.findClass zR_Pow = some m.cls := findClass_of_methodNamed B.named
  have hlocks := B.notSynchronized
  subst hsz
  have hD := hD0.self (sz := s.heap.size)
  generalize hAe : va_A [(h_a, .inr (1, [.int a_supplied, .int a_writesLeft]))] s.heap.size = A at hD ⊢
  have hA : ∀ q : Nat, s.heap.size ≤ q → A q := fun q h => by rw [← hAe]; exact Or.inr h
  have hS : va_S A s.heap s.heap [] := va_S.rf
  have hP : va_P (dC, dI) zCl [(h_a, .inr (1, [.int a_supplied, .int a_writesLeft]))] s.heap := hP
  have hl := lv_entry ([.ref h_a]) (n := 1) (Nat.le_of_ble_eq_true rfl)
  rw [lg_entry_eq]
  generalize (lg_sl ([.ref h_a]) ++ List.replicate (1 - (lg_sl ([.ref h_a])).length) Slot.unset).toArray = ls at hl ⊢
  have hl : lv_has ls 1 [(0, .ref h_a)] := hl
  have KR : ∀ (pc : Nat) (ls : Array Slot) (H : Heap) (locs : List Loc), decode zc_Pow_restore pc = .ok (.return_, 1) → va_P (dC, dI) zCl [(h_a, .inr (1, [.int u.1, .int u.2]))] H → va_D A [(h_a, .inr (1, [.int u.1, .int u.2]))] → va_S A s.heap H locs → W p l e (headSpec zw_Pow_restore ({ frames := 0, cells := 0, slots := 0, locals := 0 })).room s m ([.ref h_a] : List Value).toArray below meth c H locs 0 0 (MQ below (va_Qv (fun _ : Unit => True) (fun _ t => va_P (dC, dI) zCl [(h_a, .inr (1, [.int u.1, .int u.2]))] t.heap ∧ va_D A [(h_a, .inr (1, [.int u.1, .int u.2]))]) A) ([.ref h_a] : List Value).toArray s 0 0 A) (F0 m pc ls []) := by
    intro pc ls H locs hd hP9 hD9 hS
    exact W.vret hx hb hr (fun t ht hW => ⟨⟨(), rfl, trivial, by rw [ht]; exact hP9, hD9⟩, hS.F ht⟩) hS.2.2 hd
  generalize (MQ below (va_Qv (fun _ : Unit => True) (fun _ t => va_P (dC, dI) zCl [(h_a, .inr (1, [.int u.1, .int u.2]))] t.heap ∧ va_D A [(h_a, .inr (1, [.int u.1, .int u.2]))]) A) ([.ref h_a] : List Value).toArray s 0 0 A) = Q at KR ⊢
  unfold m_Power_restore at hm
  refine lv_aload_n hx hb zd_Pow_restore_0 rfl (lv_at hl 0 rfl) ?_
  refine lv_iconst (v := 1) hx hb zd_Pow_restore_1 (by decide) ?_
  refine va_put (D := (dC, dI)) (ci := 1) (v := .int 1) (ty := .boolean) (C := zR_Pow) (T := zT_Pow) (N := 2) hx hb hts zu_Pow zt_Pow zt_Pow_ok zn_Pow hown hK hP hD hS 0 rfl rfl 0 (by decide) (hts _ wk77) (fun _ h9 => h9) rfl (by decide +kernel) rfl rfl (Nat.le_of_ble_eq_true rfl) zd_Pow_restore_2 (fun H locs hP hD hS => ?_)
  have hP : va_P (dC, dI) zCl [(h_a, .inr (1, [.int 1, .int a_writesLeft]))] H := hP
  have hD : va_D A [(h_a, .inr (1, [.int 1, .int a_writesLeft]))] := hD
  refine lv_aload_n hx hb zd_Pow_restore_5 rfl (lv_at hl 0 rfl) ?_
  refine lv_iconst (v := (-1)) hx hb zd_Pow_restore_6 (by decide) ?_
  refine va_put (D := (dC, dI)) (ci := 1) (v := .int ((-1))) (ty := .int) (C := zR_Pow) (T := zT_Pow) (N := 2) hx hb hts zu_Pow zt_Pow zt_Pow_ok zn_Pow hown hK hP hD hS 0 rfl rfl 1 (by decide) (hts _ wk78) (fun _ h9 => h9) rfl (by decide +kernel) rfl rfl (Nat.le_of_ble_eq_true rfl) zd_Pow_restore_7 (fun H locs hP hD hS => ?_)
  have hP : va_P (dC, dI) zCl [(h_a, .inr (1, [.int 1, .int ((-1))]))] H := hP
  have hD : va_D A [(h_a, .inr (1, [.int 1, .int ((-1))]))] := hD
  obtain rfl := Option.some.inj hm
  exact KR 10 ls _ _ zd_Pow_restore_10 hP hD hS
set_option maxHeartbeats 4000000 in
set_option maxRecDepth 100000 in
theorem c_Power_write (l : Launch) (dC : Nat → ClassId) (dI : Nat → Nat → Nat) (cL cI : ClassId) (h_a : Nat) (sz : Nat) (x0 : Int32) (a_supplied : Int32) (a_writesLeft : Int32) (u : Int32 × Int32 × Int32) (hm : m_Power_write x0 a_supplied a_writesLeft = some u) : Met l zy_Pow_write zw_Pow_write ({ frames := 1, cells := 0, slots := 0, locals := 100 }) (va_Pc [.ref h_a, .int x0] (fun U => U.heap.size = sz ∧ va_P (dC, dI) zCl [(h_a, .inr (1, [.int a_supplied, .int a_writesLeft]))] U.heap ∧ va_K (dC, dI) zCl [(cL, .long), (cI, .int)] U ∧ va_D (fun _ => True) [(h_a, .inr (1, [.int a_supplied, .int a_writesLeft]))])) (va_Qi (fun (r : Int32) (_ : Unit) => u.1 = r) (fun _ t => va_P (dC, dI) zCl [(h_a, .inr (1, [.int u.2.1, .int u.2.2]))] t.heap ∧ va_D (va_A [(h_a, .inr (1, [.int a_supplied, .int a_writesLeft]))] sz) [(h_a, .inr (1, [.int u.2.1, .int u.2.2]))]) (va_A [(h_a, .inr (1, [.int a_supplied, .int a_writesLeft]))] sz)) 0 0 (va_A [(h_a, .inr (1, [.int a_supplied, .int a_writesLeft]))] sz) := by
  refine Met.ofW (cc := zc_Pow_write) (maxL := 3) (ret := (some .int)) (by decide) rfl ?_
  intro p e s m args below meth c s₁ B hml hv
  obtain ⟨rfl, hsz, hP, hK, hD0⟩ := hv
  have hx := B.exec
  have hb := B.bytes
  have hr := B.returns
  have hts0 := atoms_spec (ws := zw_Pow_write) B.pre
  have hts : ∀ w ∈ WSg, w.before _ s = true := fun w h => hts0 w (List.mem_cons_of_mem _ h)
  clear hts0
  have hown : s.vm.findClass zR_Pow = some m.cls := findClass_of_methodNamed B.named
  have hlocks := B.notSynchronized
  subst hsz
  have hD := hD0.self (sz := s.heap.size)
  generalize hAe : va_A [(h_a, .inr (1, [.int a_supplied, .int a_writesLeft]))] s.heap.size = A at hD ⊢
  have hA : ∀ q : Nat, s.heap.size ≤ q → A q := fun q h => by rw [← hAe]; exact Or.inr h
  have hS : va_S A s.heap s.heap [] := va_S.rf
  have hP : va_P (dC, dI) zCl [(h_a, .inr (1, [.int a_supplied, .int a_writesLeft]))] s.heap := hP
  have hl := lv_entry ([.ref h_a, .int x0]) (n := 3) (Nat.le_of_ble_eq_true rfl)
  rw [lg_entry_eq]
  generalize (lg_sl ([.ref h_a, .int x0]) ++ List.replicate (3 - (lg_sl ([.ref h_a, .int x0])).length) Slot.unset).toArray = ls at hl ⊢
  have hl : lv_has ls 3 [(0, .ref h_a), (1, .int x0)] := hl
  have KR : ∀ (pc : Nat) (ls : Array Slot) (H : Heap) (locs : List Loc), decode zc_Pow_write pc = .ok (.ireturn, 1) → va_P (dC, dI) zCl [(h_a, .inr (1, [.int u.2.1, .int u.2.2]))] H → va_D A [(h_a, .inr (1, [.int u.2.1, .int u.2.2]))] → va_S A s.heap H locs → W p l e (headSpec zw_Pow_write ({ frames := 1, cells := 0, slots := 0, locals := 100 })).room s m ([.ref h_a, .int x0] : List Value).toArray below meth c H locs 0 0 (MQ below (va_Qi (fun (r : Int32) (_ : Unit) => u.1 = r) (fun _ t => va_P (dC, dI) zCl [(h_a, .inr (1, [.int u.2.1, .int u.2.2]))] t.heap ∧ va_D A [(h_a, .inr (1, [.int u.2.1, .int u.2.2]))]) A) ([.ref h_a, .int x0] : List Value).toArray s 0 0 A) (F0 m pc ls [.int u.1]) := by
    intro pc ls H locs hd hP9 hD9 hS
    exact W.iret (v := u.1) hx hb hr (fun t ht hW => ⟨⟨u.1, (), rfl, rfl, by rw [ht]; exact hP9, hD9⟩, hS.F ht⟩) hS.2.2 hd
  generalize (MQ below (va_Qi (fun (r : Int32) (_ : Unit) => u.1 = r) (fun _ t => va_P (dC, dI) zCl [(h_a, .inr (1, [.int u.2.1, .int u.2.2]))] t.heap ∧ va_D A [(h_a, .inr (1, [.int u.2.1, .int u.2.2]))]) A) ([.ref h_a, .int x0] : List Value).toArray s 0 0 A) = Q at KR ⊢
  unfold m_Power_write at hm
  refine lv_aload_n hx hb zd_Pow_write_0 rfl (lv_at hl 0 rfl) ?_
  refine va_get (D := (dC, dI)) (ci := 1) (v := .int a_writesLeft) (C := zR_Pow) (T := zT_Pow) (N := 2) hx hb hts zu_Pow hown hK hP 0 rfl rfl 1 (by decide) (hts _ wk78) (fun _ h9 => h9) rfl zd_Pow_write_1 ?_
  refine lv_iconst (v := (-1)) hx hb zd_Pow_write_4 (by decide) ?_
  refine lv_icmp_ne (tgt := 10) hx hb zd_Pow_write_5 (by decide) (fun hc => ?_) (fun hc => ?_)
  · rw [if_neg hc] at hm
    refine lv_iload_n hx hb zd_Pow_write_10 rfl (lv_at hl 1 rfl) ?_
    refine lv_aload_n hx hb zd_Pow_write_11 rfl (lv_at hl 0 rfl) ?_
    refine va_get (D := (dC, dI)) (ci := 1) (v := .int a_writesLeft) (C := zR_Pow) (T := zT_Pow) (N := 2) hx hb hts zu_Pow hown hK hP 0 rfl rfl 1 (by decide) (hts _ wk78) (fun _ h9 => h9) rfl zd_Pow_write_12 ?_
    refine va_mmin hx hb (hml.trans hl.1.symm) hown (hts _ wk83) (hts _ wk84) (hts _ wk85) (hts _ wk86) (Nat.le_of_ble_eq_true rfl) (Nat.le_of_ble_eq_true rfl) (Nat.zero_le _) (Nat.zero_le _) zd_Pow_write_15 ?_
    refine lv_istore_n (lv' := [(2, .int ((if a_writesLeft < x0 then a_writesLeft else x0))), (0, .ref h_a), (1, .int x0)]) hx hb zd_Pow_write_18 rfl hl (by decide) rfl (fun ls hl => ?_)
    refine lv_aload_n hx hb zd_Pow_write_19 rfl (lv_at hl 1 rfl) ?_
    refine lv_dup hx hb zd_Pow_write_20 rfl ?_
    refine va_get (D := (dC, dI)) (ci := 1) (v := .int a_writesLeft) (C := zR_Pow) (T := zT_Pow) (N := 2) hx hb hts zu_Pow hown hK hP 0 rfl rfl 1 (by decide) (hts _ wk78) (fun _ h9 => h9) rfl zd_Pow_write_21 ?_
    refine lv_iload_n hx hb zd_Pow_write_24 rfl (lv_at hl 0 rfl) ?_
    refine lv_isub hx hb zd_Pow_write_25 ?_
    refine va_put (D := (dC, dI)) (ci := 1) (v := .int ((a_writesLeft - (if a_writesLeft < x0 then a_writesLeft else x0)))) (ty := .int) (C := zR_Pow) (T := zT_Pow) (N := 2) hx hb hts zu_Pow zt_Pow zt_Pow_ok zn_Pow hown hK hP hD hS 0 rfl rfl 1 (by decide) (hts _ wk78) (fun _ h9 => h9) rfl (by decide +kernel) rfl rfl (Nat.le_of_ble_eq_true rfl) zd_Pow_write_26 (fun H locs hP hD hS => ?_)
    have hP : va_P (dC, dI) zCl [(h_a, .inr (1, [.int a_supplied, .int ((a_writesLeft - (if a_writesLeft < x0 then a_writesLeft else x0)))]))] H := hP
    have hD : va_D A [(h_a, .inr (1, [.int a_supplied, .int ((a_writesLeft - (if a_writesLeft < x0 then a_writesLeft else x0)))]))] := hD
    refine lv_aload_n hx hb zd_Pow_write_29 rfl (lv_at hl 1 rfl) ?_
    refine lv_iload_n hx hb zd_Pow_write_30 rfl (lv_at hl 0 rfl) ?_
    refine lv_iload_n hx hb zd_Pow_write_31 rfl (lv_at hl 2 rfl) ?_
    refine lv_icmp_ne (tgt := 39) hx hb zd_Pow_write_32 (by decide) (fun hc => ?_) (fun hc => ?_)
    · rw [if_neg hc] at hm
      refine lv_iconst (v := 0) hx hb zd_Pow_write_39 (by decide) ?_
      refine va_put (D := (dC, dI)) (ci := 1) (v := .int 0) (ty := .boolean) (C := zR_Pow) (T := zT_Pow) (N := 2) hx hb hts zu_Pow zt_Pow zt_Pow_ok zn_Pow hown hK hP hD hS 0 rfl rfl 0 (by decide) (hts _ wk77) (fun _ h9 => h9) rfl (by decide +kernel) rfl rfl (Nat.le_of_ble_eq_true rfl) zd_Pow_write_40 (fun H locs hP hD hS => ?_)
      have hP : va_P (dC, dI) zCl [(h_a, .inr (1, [.int 0, .int ((a_writesLeft - (if a_writesLeft < x0 then a_writesLeft else x0)))]))] H := hP
      have hD : va_D A [(h_a, .inr (1, [.int 0, .int ((a_writesLeft - (if a_writesLeft < x0 then a_writesLeft else x0)))]))] := hD
      refine lv_iload_n hx hb zd_Pow_write_43 rfl (lv_at hl 0 rfl) ?_
      obtain rfl := Option.some.inj hm
      exact KR 44 ls _ _ zd_Pow_write_44 hP hD hS
    · rw [if_pos hc] at hm
      refine lv_iconst (v := 1) hx hb zd_Pow_write_35 (by decide) ?_
      refine lv_goto (tgt := 40) hx hb zd_Pow_write_36 (by decide) ?_
      refine va_put (D := (dC, dI)) (ci := 1) (v := .int 1) (ty := .boolean) (C := zR_Pow) (T := zT_Pow) (N := 2) hx hb hts zu_Pow zt_Pow zt_Pow_ok zn_Pow hown hK hP hD hS 0 rfl rfl 0 (by decide) (hts _ wk77) (fun _ h9 => h9) rfl (by decide +kernel) rfl rfl (Nat.le_of_ble_eq_true rfl) zd_Pow_write_40 (fun H locs hP hD hS => ?_)
      have hP : va_P (dC, dI) zCl [(h_a, .inr (1, [.int 1, .int ((a_writesLeft - (if a_writesLeft < x0 then a_writesLeft else x0)))]))] H := hP
      have hD : va_D A [(h_a, .inr (1, [.int 1, .int ((a_writesLeft - (if a_writesLeft < x0 then a_writesLeft else x0)))]))] := hD
      refine lv_iload_n hx hb zd_Pow_write_43 rfl (lv_at hl 0 rfl) ?_
      obtain rfl := Option.some.inj hm
      exact KR 44 ls _ _ zd_Pow_write_44 hP hD hS
  · rw [if_pos hc] at hm
    refine lv_iload_n hx hb zd_Pow_write_8 rfl (lv_at hl 1 rfl) ?_
    obtain rfl := Option.some.inj hm
    exact KR 9 ls _ _ zd_Pow_write_9 hP hD hS
