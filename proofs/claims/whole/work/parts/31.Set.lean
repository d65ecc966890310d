set_option maxHeartbeats 4000000 in
set_option maxRecDepth 100000 in
theorem c_RowSet_copyFrom (l : Launch) (dC : Nat → ClassId) (dI : Nat → Nat → Nat) (cL cI : ClassId) (h_a h_a_rows h_b0 h_b0_rows : Nat) (sz : Nat) (a_rows : Nat → Int64) (a_size : Int32) (b0_rows : Nat → Int64) (b0_size : Int32) (u : (Nat → Int64) × Int32) (hm : m_RowSet_copyFrom a_rows b0_rows b0_size = some u) : Met l zy_Set_copyFrom zw_Set_copyFrom ({ frames := 1, cells := 0, slots := 0, locals := 100 }) (va_Pc [.ref h_a, .ref h_b0] (fun U => U.heap.size = sz ∧ va_P (dC, dI) zCl [(h_a, .inr (2, [.ref h_a_rows, .int a_size])), (h_a_rows, .inl (cL, 24, .inr (.inl a_rows))), (h_b0, .inr (2, [.ref h_b0_rows, .int b0_size])), (h_b0_rows, .inl (cL, 24, .inr (.inl b0_rows)))] U.heap ∧ va_K (dC, dI) zCl [(cL, .long), (cI, .int)] U ∧ va_D (fun _ => True) [(h_a, .inr (2, [.ref h_a_rows, .int a_size])), (h_a_rows, .inl (cL, 24, .inr (.inl a_rows))), (h_b0, .inr (2, [.ref h_b0_rows, .int b0_size])), (h_b0_rows, .inl (cL, 24, .inr (.inl b0_rows)))])) (va_Qv (fun _ : Unit => True) (fun _ t => va_P (dC, dI) zCl [(h_a, .inr (2, [.ref h_a_rows, .int u.2])), (h_a_rows, .inl (cL, 24, .inr (.inl u.1))), (h_b0, .inr (2, [.ref h_b0_rows, .int b0_size])), (h_b0_rows, .inl (cL, 24, .inr (.inl b0_rows)))] t.heap ∧ va_D (va_A [(h_a, .inr (2, [.ref h_a_rows, .int a_size])), (h_a_rows, .inl (cL, 24, .inr (.inl a_rows))), (h_b0, .inr (2, [.ref h_b0_rows, .int b0_size])), (h_b0_rows, .inl (cL, 24, .inr (.inl b0_rows)))] sz) [(h_a, .inr (2, [.ref h_a_rows, .int u.2])), (h_a_rows, .inl (cL, 24, .inr (.inl u.1))), (h_b0, .inr (2, [.ref h_b0_rows, .int b0_size])), (h_b0_rows, .inl (cL, 24, .inr (.inl b0_rows)))]) (va_A [(h_a, .inr (2, [.ref h_a_rows, .int a_size])), (h_a_rows, .inl (cL, 24, .inr (.inl a_rows))), (h_b0, .inr (2, [.ref h_b0_rows, .int b0_size])), (h_b0_rows, .inl (cL, 24, .inr (.inl b0_rows)))] sz)) 0 0 (va_A [(h_a, .inr (2, [.ref h_a_rows, .int a_size])), (h_a_rows, .inl (cL, 24, .inr (.inl a_rows))), (h_b0, .inr (2, [.ref h_b0_rows, .int b0_size])), (h_b0_rows, .inl (cL, 24, .inr (.inl b0_rows)))] sz) := by
  refine Met.ofW (cc := zc_Set_copyFrom) (maxL := 2) (ret := none) (by decide) rfl ?_
  intro p e s m args below meth c s₁ B hml hv
  obtain ⟨rfl, hsz, hP, hK, hD0⟩ := hv
  have hx := B.exec
  have hb := B.bytes
  have hr := B.returns
  have hts0 := atoms_spec (ws := zw_Set_copyFrom) B.pre
  have hts : ∀ w ∈ WSg, w.before _ s = true := fun w h => hts0 w (List.mem_cons_of_mem _ h)
  clear hts0
  have hown : s.vm.findClass zR_Set = some m.cls := findClass_of_methodNamed B.named
  have hlocks := B.notSynchronized
  subst hsz
  have hD := hD0.self (sz := s.heap.size)
  generalize hAe : va_A [(h_a, .inr (2, [.ref h_a_rows, .int a_size])), (h_a_rows, .inl (cL, 24, .inr (.inl a_rows))), (h_b0, .inr (2, [.ref h_b0_rows, .int b0_size])), (h_b0_rows, .inl (cL, 24, .inr (.inl b0_rows)))] s.heap.size = A at hD ⊢
  have hA : ∀ q : Nat, s.heap.size ≤ q → A q := fun q h => by rw [← hAe]; exact Or.inr h
  have hS : va_S A s.heap s.heap [] := va_S.rf
  have hP : va_P (dC, dI) zCl [(h_a, .inr (2, [.ref h_a_rows, .int a_size])), (h_a_rows, .inl (cL, 24, .inr (.inl a_rows))), (h_b0, .inr (2, [.ref h_b0_rows, .int b0_size])), (h_b0_rows, .inl (cL, 24, .inr (.inl b0_rows)))] s.heap := hP
  have hl := lv_entry ([.ref h_a, .ref h_b0]) (n := 2) (Nat.le_of_ble_eq_true rfl)
  rw [lg_entry_eq]
  generalize (lg_sl ([.ref h_a, .ref h_b0]) ++ List.replicate (2 - (lg_sl ([.ref h_a, .ref h_b0])).length) Slot.unset).toArray = ls at hl ⊢
  have hl : lv_has ls 2 [(0, .ref h_a), (1, .ref h_b0)] := hl
  have KR : ∀ (pc : Nat) (ls : Array Slot) (H : Heap) (locs : List Loc), decode zc_Set_copyFrom pc = .ok (.return_, 1) → va_P (dC, dI) zCl [(h_a, .inr (2, [.ref h_a_rows, .int u.2])), (h_a_rows, .inl (cL, 24, .inr (.inl u.1))), (h_b0, .inr (2, [.ref h_b0_rows, .int b0_size])), (h_b0_rows, .inl (cL, 24, .inr (.inl b0_rows)))] H → va_D A [(h_a, .inr (2, [.ref h_a_rows, .int u.2])), (h_a_rows, .inl (cL, 24, .inr (.inl u.1))), (h_b0, .inr (2, [.ref h_b0_rows, .int b0_size])), (h_b0_rows, .inl (cL, 24, .inr (.inl b0_rows)))] → va_S A s.heap H locs → W p l e (headSpec zw_Set_copyFrom ({ frames := 1, cells := 0, slots := 0, locals := 100 })).room s m ([.ref h_a, .ref h_b0] : List Value).toArray below meth c H locs 0 0 (MQ below (va_Qv (fun _ : Unit => True) (fun _ t => va_P (dC, dI) zCl [(h_a, .inr (2, [.ref h_a_rows, .int u.2])), (h_a_rows, .inl (cL, 24, .inr (.inl u.1))), (h_b0, .inr (2, [.ref h_b0_rows, .int b0_size])), (h_b0_rows, .inl (cL, 24, .inr (.inl b0_rows)))] t.heap ∧ va_D A [(h_a, .inr (2, [.ref h_a_rows, .int u.2])), (h_a_rows, .inl (cL, 24, .inr (.inl u.1))), (h_b0, .inr (2, [.ref h_b0_rows, .int b0_size])), (h_b0_rows, .inl (cL, 24, .inr (.inl b0_rows)))]) A) ([.ref h_a, .ref h_b0] : List Value).toArray s 0 0 A) (F0 m pc ls []) := by
    intro pc ls H locs hd hP9 hD9 hS
    exact W.vret hx hb hr (fun t ht hW => ⟨⟨(), rfl, trivial, by rw [ht]; exact hP9, hD9⟩, hS.F ht⟩) hS.2.2 hd
  generalize (MQ below (va_Qv (fun _ : Unit => True) (fun _ t => va_P (dC, dI) zCl [(h_a, .inr (2, [.ref h_a_rows, .int u.2])), (h_a_rows, .inl (cL, 24, .inr (.inl u.1))), (h_b0, .inr (2, [.ref h_b0_rows, .int b0_size])), (h_b0_rows, .inl (cL, 24, .inr (.inl b0_rows)))] t.heap ∧ va_D A [(h_a, .inr (2, [.ref h_a_rows, .int u.2])), (h_a_rows, .inl (cL, 24, .inr (.inl u.1))), (h_b0, .inr (2, [.ref h_b0_rows, .int b0_size])), (h_b0_rows, .inl (cL, 24, .inr (.inl b0_rows)))]) A) ([.ref h_a, .ref h_b0] : List Value).toArray s 0 0 A) = Q at KR ⊢
  unfold m_RowSet_copyFrom at hm
  refine lv_aload_n hx hb zd_Set_copyFrom_0 rfl (lv_at hl 0 rfl) ?_
  refine lv_aload_n hx hb zd_Set_copyFrom_1 rfl (lv_at hl 1 rfl) ?_
  refine va_get (D := (dC, dI)) (ci := 2) (v := .int b0_size) (C := zR_Set) (T := zT_Set) (N := 2) hx hb hts zu_Set hown hK hP 2 rfl rfl 1 (by decide) (hts _ wk104) (fun _ h9 => h9) rfl zd_Set_copyFrom_2 ?_
  refine va_put (D := (dC, dI)) (ci := 2) (v := .int b0_size) (ty := .int) (C := zR_Set) (T := zT_Set) (N := 2) hx hb hts zu_Set zt_Set zt_Set_ok zn_Set hown hK hP hD hS 0 rfl rfl 1 (by decide) (hts _ wk104) (fun _ h9 => h9) rfl (by decide +kernel) rfl rfl (Nat.le_of_ble_eq_true rfl) zd_Set_copyFrom_5 (fun H locs hP hD hS => ?_)
  have hP : va_P (dC, dI) zCl [(h_a, .inr (2, [.ref h_a_rows, .int b0_size])), (h_a_rows, .inl (cL, 24, .inr (.inl a_rows))), (h_b0, .inr (2, [.ref h_b0_rows, .int b0_size])), (h_b0_rows, .inl (cL, 24, .inr (.inl b0_rows)))] H := hP
  have hD : va_D A [(h_a, .inr (2, [.ref h_a_rows, .int b0_size])), (h_a_rows, .inl (cL, 24, .inr (.inl a_rows))), (h_b0, .inr (2, [.ref h_b0_rows, .int b0_size])), (h_b0_rows, .inl (cL, 24, .inr (.inl b0_rows)))] := hD
  refine lv_aload_n hx hb zd_Set_copyFrom_8 rfl (lv_at hl 1 rfl) ?_
  refine va_get (D := (dC, dI)) (ci := 2) (v := .ref h_b0_rows) (C := zR_Set) (T := zT_Set) (N := 2) hx hb hts zu_Set hown hK hP 2 rfl rfl 0 (by decide) (hts _ wk103) (fun _ h9 => h9) rfl zd_Set_copyFrom_9 ?_
  refine lv_iconst (v := 0) hx hb zd_Set_copyFrom_12 (by decide) ?_
  refine lv_aload_n hx hb zd_Set_copyFrom_13 rfl (lv_at hl 0 rfl) ?_
  refine va_get (D := (dC, dI)) (ci := 2) (v := .ref h_a_rows) (C := zR_Set) (T := zT_Set) (N := 2) hx hb hts zu_Set hown hK hP 0 rfl rfl 0 (by decide) (hts _ wk103) (fun _ h9 => h9) rfl zd_Set_copyFrom_14 ?_
  refine lv_iconst (v := 0) hx hb zd_Set_copyFrom_17 (by decide) ?_
  refine lv_aload_n hx hb zd_Set_copyFrom_18 rfl (lv_at hl 0 rfl) ?_
  refine va_get (D := (dC, dI)) (ci := 2) (v := .int b0_size) (C := zR_Set) (T := zT_Set) (N := 2) hx hb hts zu_Set hown hK hP 0 rfl rfl 1 (by decide) (hts _ wk104) (fun _ h9 => h9) rfl zd_Set_copyFrom_19 ?_
  by_cases hi : (0 : Int32) < 0 ∨ (0 : Int32) < 0 ∨ b0_size < 0 ∨ 24 < (0 : Int32).toNatClampNeg + b0_size.toNatClampNeg ∨ 24 < (0 : Int32).toNatClampNeg + b0_size.toNatClampNeg
  · rw [if_pos hi] at hm; cases hm
  rw [if_neg hi] at hm
  have hj1 := fun h => hi (Or.inl h)
  have hj2 := fun h => hi (Or.inr (Or.inl h))
  have hj3 := fun h => hi (Or.inr (Or.inr (Or.inl h)))
  have hj4 := Nat.le_of_not_lt fun h => hi (Or.inr (Or.inr (Or.inr (Or.inl h))))
  have hj5 := Nat.le_of_not_lt fun h => hi (Or.inr (Or.inr (Or.inr (Or.inr h))))
  refine va_copyl hx hb (hml.trans hl.1.symm) hown (hts _ wk106) (hts _ wk19) (hts _ wk20) (hts _ wk21) hK hP hD hS 3 1 0 0 rfl rfl rfl rfl rfl hj1 hj2 hj3 hj4 hj5 (fun _ _ => rfl) (Nat.le_of_ble_eq_true rfl) (Nat.le_of_ble_eq_true rfl) zd_Set_copyFrom_22 (fun H locs hP hD hS => ?_)
  have hP : va_P (dC, dI) zCl [(h_a, .inr (2, [.ref h_a_rows, .int b0_size])), (h_a_rows, .inl (cL, 24, .inr (.inl ((va_cpy b0_rows a_rows ((0 : Int32).toNatClampNeg) ((0 : Int32).toNatClampNeg) (b0_size.toNatClampNeg)))))), (h_b0, .inr (2, [.ref h_b0_rows, .int b0_size])), (h_b0_rows, .inl (cL, 24, .inr (.inl b0_rows)))] H := hP
  have hD : va_D A [(h_a, .inr (2, [.ref h_a_rows, .int b0_size])), (h_a_rows, .inl (cL, 24, .inr (.inl ((va_cpy b0_rows a_rows ((0 : Int32).toNatClampNeg) ((0 : Int32).toNatClampNeg) (b0_size.toNatClampNeg)))))), (h_b0, .inr (2, [.ref h_b0_rows, .int b0_size])), (h_b0_rows, .inl (cL, 24, .inr (.inl b0_rows)))] := hD
  obtain rfl := Option.some.inj hm
  exact KR 25 ls _ _ zd_Set_copyFrom_25 hP hD hS
set_option maxHeartbeats 4000000 in
set_option maxRecDepth 100000 in
theorem c_RowSet_rowsBefore (l : Launch) (dC : Nat → ClassId) (dI : Nat → Nat → Nat) (cL cI : ClassId) (h_a h_a_rows : Nat) (sz : Nat) (x0 : Int64) (a_rows : Nat → Int64) (a_size : Int32) (u : Int32) (hm : m_RowSet_rowsBefore x0 a_rows a_size = some u) : Met l zy_Set_rowsBefore zw_Set_rowsBefore ({ frames := 0, cells := 0, slots := 0, locals := 0 }) (va_Pc [.ref h_a, .long x0] (fun U => U.heap.size = sz ∧ va_P (dC, dI) zCl [(h_a, .inr (2, [.ref h_a_rows, .int a_size])), (h_a_rows, .inl (cL, 24, .inr (.inl a_rows)))] U.heap ∧ va_K (dC, dI) zCl [(cL, .long), (cI, .int)] U ∧ va_D (fun _ => True) [(h_a, .inr (2, [.ref h_a_rows, .int a_size])), (h_a_rows, .inl (cL, 24, .inr (.inl a_rows)))])) (va_Qi (fun (r : Int32) (_ : Unit) => u = r) (fun _ t => va_P (dC, dI) zCl [(h_a, .inr (2, [.ref h_a_rows, .int a_size])), (h_a_rows, .inl (cL, 24, .inr (.inl a_rows)))] t.heap ∧ va_D (va_A [(h_a, .inr (2, [.ref h_a_rows, .int a_size])), (h_a_rows, .inl (cL, 24, .inr (.inl a_rows)))] sz) [(h_a, .inr (2, [.ref h_a_rows, .int a_size])), (h_a_rows, .inl (cL, 24, .inr (.inl a_rows)))]) (va_A [(h_a, .inr (2, [.ref h_a_rows, .int a_size])), (h_a_rows, .inl (cL, 24, .inr (.inl a_rows)))] sz)) 0 0 (va_A [(h_a, .inr (2, [.ref h_a_rows, .int a_size])), (h_a_rows, .inl (cL, 24, .inr (.inl a_rows)))] sz) := by
  refine Met.ofW (cc := zc_Set_rowsBefore) (maxL := 4) (ret := (some .int)) (by decide) rfl ?_
  intro p e s m args below meth c s₁ B hml hv
  obtain ⟨rfl, hsz, hP, hK, hD0⟩ := hv
  have hx := B.exec
  have hb := B.bytes
  have hr := B.returns
  have hts0 := atoms_spec (ws := zw_Set_rowsBefore) B.pre
  have hts : ∀ w ∈ WSg, w.before _ s = true := fun w h => hts0 w (List.mem_cons_of_mem _ h)
  clear hts0
  have hown : s.vm.findClass zR_Set = some m.cls := findClass_of_methodNamed B.named
  have hlocks := B.notSynchronized
  subst hsz
  have hD := hD0.self (sz := s.heap.size)
  generalize hAe : va_A [(h_a, .inr (2, [.ref h_a_rows, .int a_size])), (h_a_rows, .inl (cL, 24, .inr (.inl a_rows)))] s.heap.size = A at hD ⊢
  have hA : ∀ q : Nat, s.heap.size ≤ q → A q := fun q h => by rw [← hAe]; exact Or.inr h
  have hS : va_S A s.heap s.heap [] := va_S.rf
  have hP : va_P (dC, dI) zCl [(h_a, .inr (2, [.ref h_a_rows, .int a_size])), (h_a_rows, .inl (cL, 24, .inr (.inl a_rows)))] s.heap := hP
  have hl := lv_entry ([.ref h_a, .long x0]) (n := 4) (Nat.le_of_ble_eq_true rfl)
  rw [lg_entry_eq]
  generalize (lg_sl ([.ref h_a, .long x0]) ++ List.replicate (4 - (lg_sl ([.ref h_a, .long x0])).length) Slot.unset).toArray = ls at hl ⊢
  have hl : lv_has ls 4 [(0, .ref h_a), (1, .long x0)] := hl
  have KR : ∀ (pc : Nat) (ls : Array Slot) (H : Heap) (locs : List Loc), decode zc_Set_rowsBefore pc = .ok (.ireturn, 1) → va_P (dC, dI) zCl [(h_a, .inr (2, [.ref h_a_rows, .int a_size])), (h_a_rows, .inl (cL, 24, .inr (.inl a_rows)))] H → va_D A [(h_a, .inr (2, [.ref h_a_rows, .int a_size])), (h_a_rows, .inl (cL, 24, .inr (.inl a_rows)))] → va_S A s.heap H locs → W p l e (headSpec zw_Set_rowsBefore ({ frames := 0, cells := 0, slots := 0, locals := 0 })).room s m ([.ref h_a, .long x0] : List Value).toArray below meth c H locs 0 0 (MQ below (va_Qi (fun (r : Int32) (_ : Unit) => u = r) (fun _ t => va_P (dC, dI) zCl [(h_a, .inr (2, [.ref h_a_rows, .int a_size])), (h_a_rows, .inl (cL, 24, .inr (.inl a_rows)))] t.heap ∧ va_D A [(h_a, .inr (2, [.ref h_a_rows, .int a_size])), (h_a_rows, .inl (cL, 24, .inr (.inl a_rows)))]) A) ([.ref h_a, .long x0] : List Value).toArray s 0 0 A) (F0 m pc ls [.int u]) := by
    intro pc ls H locs hd hP9 hD9 hS
    exact W.iret (v := u) hx hb hr (fun t ht hW => ⟨⟨u, (), rfl, rfl, by rw [ht]; exact hP9, hD9⟩, hS.F ht⟩) hS.2.2 hd
  generalize (MQ below (va_Qi (fun (r : Int32) (_ : Unit) => u = r) (fun _ t => va_P (dC, dI) zCl [(h_a, .inr (2, [.ref h_a_rows, .int a_size])), (h_a_rows, .inl (cL, 24, .inr (.inl a_rows)))] t.heap ∧ va_D A [(h_a, .inr (2, [.ref h_a_rows, .int a_size])), (h_a_rows, .inl (cL, 24, .inr (.inl a_rows)))]) A) ([.ref h_a, .long x0] : List Value).toArray s 0 0 A) = Q at KR ⊢
  have L2 : ∀ (n : Nat) (l1 : Int64) (l3 : Int32) (a_rows : Nat → Int64) (a_size : Int32) (ls : Array Slot) (H : Heap) (locs : List Loc) (uu : (Int32)), lv_has ls 4 [(0, .ref h_a), (1, .long l1), (3, .int l3)] → va_P (dC, dI) zCl [(h_a, .inr (2, [.ref h_a_rows, .int a_size])), (h_a_rows, .inl (cL, 24, .inr (.inl a_rows)))] H → va_D A [(h_a, .inr (2, [.ref h_a_rows, .int a_size])), (h_a_rows, .inl (cL, 24, .inr (.inl a_rows)))] → va_S A s.heap H locs → m_RowSet_rowsBefore_l2 l1 a_rows a_size n l3 = some uu → (∀ (ls : Array Slot) (H : Heap) (locs : List Loc), lv_has ls 4 [(0, .ref h_a), (1, .long l1), (3, .int uu)] → va_P (dC, dI) zCl [(h_a, .inr (2, [.ref h_a_rows, .int a_size])), (h_a_rows, .inl (cL, 24, .inr (.inl a_rows)))] H → va_D A [(h_a, .inr (2, [.ref h_a_rows, .int a_size])), (h_a_rows, .inl (cL, 24, .inr (.inl a_rows)))] → va_S A s.heap H locs → W p l e (headSpec zw_Set_rowsBefore ({ frames := 0, cells := 0, slots := 0, locals := 0 })).room s m ([.ref h_a, .long x0] : List Value).toArray below meth c H locs 0 0 Q (F0 m 27 ls [])) → W p l e (headSpec zw_Set_rowsBefore ({ frames := 0, cells := 0, slots := 0, locals := 0 })).room s m ([.ref h_a, .long x0] : List Value).toArray below meth c H locs 0 0 Q (F0 m 2 ls []) := by
    intro n
    induction n with
    | zero =>
      intro l1 l3 a_rows a_size ls H locs uu hl hP hD hS hm K
      rw [m_RowSet_rowsBefore_l2] at hm
      cases hm
    | succ n ih =>
      intro l1 l3 a_rows a_size ls H locs uu hl hP hD hS hm K
      rw [m_RowSet_rowsBefore_l2] at hm
      refine lv_iload_n hx hb zd_Set_rowsBefore_2 rfl (lv_at hl 2 rfl) ?_
      refine lv_aload_n hx hb zd_Set_rowsBefore_3 rfl (lv_at hl 0 rfl) ?_
      refine va_get (D := (dC, dI)) (ci := 2) (v := .int a_size) (C := zR_Set) (T := zT_Set) (N := 2) hx hb hts zu_Set hown hK hP 0 rfl rfl 1 (by decide) (hts _ wk104) (fun _ h9 => h9) rfl zd_Set_rowsBefore_4 ?_
      refine lv_icmp_ge (tgt := 27) hx hb zd_Set_rowsBefore_7 (by decide) (fun hc => ?_) (fun hc => ?_)
      · rw [if_pos hc] at hm
        obtain rfl := Option.some.inj hm
        exact K ls H locs (lv_sub hl [0, 1, 2] rfl) hP hD hS
      · rw [if_neg hc] at hm
        refine lv_aload_n hx hb zd_Set_rowsBefore_10 rfl (lv_at hl 0 rfl) ?_
        refine va_get (D := (dC, dI)) (ci := 2) (v := .ref h_a_rows) (C := zR_Set) (T := zT_Set) (N := 2) hx hb hts zu_Set hown hK hP 0 rfl rfl 0 (by decide) (hts _ wk103) (fun _ h9 => h9) rfl zd_Set_rowsBefore_11 ?_
        refine lv_iload_n hx hb zd_Set_rowsBefore_14 rfl (lv_at hl 2 rfl) ?_
        by_cases hi : l3 < 0 ∨ 24 ≤ l3.toNatClampNeg
        · rw [if_pos hi] at hm; cases hm
        rw [if_neg hi] at hm
        refine va_lald hx hb hK hP 1 0 rfl rfl hi zd_Set_rowsBefore_15 ?_
        refine lv_lload_n hx hb zd_Set_rowsBefore_16 rfl (lv_at hl 1 rfl) ?_
        refine W.lcmp hx hb zd_Set_rowsBefore_17 ?_
        refine lv_if_ge (tgt := 27) hx hb zd_Set_rowsBefore_18 (by decide) (fun hc => ?_) (fun hc => ?_)
        · rw [if_pos hc] at hm
          obtain rfl := Option.some.inj hm
          exact K ls H locs (lv_sub hl [0, 1, 2] rfl) hP hD hS
        · rw [if_neg hc] at hm
          refine lv_iinc (k := 2) (v := (l3 + 1)) (lv' := [(3, .int ((l3 + 1))), (0, .ref h_a), (1, .long l1)]) hx hb zd_Set_rowsBefore_21 hl rfl rfl (by decide) rfl (fun ls hl => ?_)
          refine lv_goto (tgt := 2) hx hb zd_Set_rowsBefore_24 (by decide) ?_
          exact ih l1 ((l3 + 1)) a_rows a_size ls H locs uu (lv_sub hl [1, 2, 0] rfl) hP hD hS hm K
  unfold m_RowSet_rowsBefore at hm
  refine lv_iconst (v := 0) hx hb zd_Set_rowsBefore_0 (by decide) ?_
  refine lv_istore_n (lv' := [(3, .int 0), (0, .ref h_a), (1, .long x0)]) hx hb zd_Set_rowsBefore_1 rfl hl (by decide) rfl (fun ls hl => ?_)
  obtain ⟨u1, hu1, hm⟩ := Option.bind_eq_some_iff.mp hm
  refine L2 100 x0 0 a_rows a_size ls _ _ u1 (lv_sub hl [1, 2, 0] rfl) hP hD hS hu1 (fun ls H locs hl hP hD hS => ?_)
  refine lv_iload_n hx hb zd_Set_rowsBefore_27 rfl (lv_at hl 2 rfl) ?_
  obtain rfl := Option.some.inj hm
  exact KR 28 ls _ _ zd_Set_rowsBefore_28 hP hD hS
set_option maxHeartbeats 4000000 in
set_option maxRecDepth 100000 in
theorem c_RowSet_hasBeginning (l : Launch) (dC : Nat → ClassId) (dI : Nat → Nat → Nat) (cL cI : ClassId) (h_a h_a_rows : Nat) (sz : Nat) (x0 : Int32) (x1 : Int64) (x2 : Int32) (a_rows : Nat → Int64) (a_size : Int32) (u : Int32) (hm : m_RowSet_hasBeginning x0 x1 x2 a_rows = some u) : Met l zy_Set_hasBeginning zw_Set_hasBeginning ({ frames := 1, cells := 0, slots := 0, locals := 22 }) (va_Pc [.ref h_a, .int x0, .long x1, .int x2] (fun U => U.heap.size = sz ∧ va_P (dC, dI) zCl [(h_a, .inr (2, [.ref h_a_rows, .int a_size])), (h_a_rows, .inl (cL, 24, .inr (.inl a_rows)))] U.heap ∧ va_K (dC, dI) zCl [(cL, .long), (cI, .int)] U ∧ va_D (fun _ => True) [(h_a, .inr (2, [.ref h_a_rows, .int a_size])), (h_a_rows, .inl (cL, 24, .inr (.inl a_rows)))])) (va_Qi (fun (r : Int32) (_ : Unit) => u = r) (fun _ t => va_P (dC, dI) zCl [(h_a, .inr (2, [.ref h_a_rows, .int a_size])), (h_a_rows, .inl (cL, 24, .inr (.inl a_rows)))] t.heap ∧ va_D (va_A [(h_a, .inr (2, [.ref h_a_rows, .int a_size])), (h_a_rows, .inl (cL, 24, .inr (.inl a_rows)))] sz) [(h_a, .inr (2, [.ref h_a_rows, .int a_size])), (h_a_rows, .inl (cL, 24, .inr (.inl a_rows)))]) (va_A [(h_a, .inr (2, [.ref h_a_rows, .int a_size])), (h_a_rows, .inl (cL, 24, .inr (.inl a_rows)))] sz)) 0 0 (va_A [(h_a, .inr (2, [.ref h_a_rows, .int a_size])), (h_a_rows, .inl (cL, 24, .inr (.inl a_rows)))] sz) := by
  refine Met.ofW (cc := zc_Set_hasBeginning) (maxL := 5) (ret := (some .boolean)) (by decide) rfl ?_
  intro p e s m args below meth c s₁ B hml hv
  obtain ⟨rfl, hsz, hP, hK, hD0⟩ := hv
  have hx := B.exec
  have hb := B.bytes
  have hr := B.returns
  have hts0 := atoms_spec (ws := zw_Set_hasBeginning) B.pre
  have hts : ∀ w ∈ WSg, w.before _ s = true := fun w h => hts0 w (List.mem_cons_of_mem _ h)
  clear hts0
  have hown : s.vm.findClass zR_Set = some m.cls := findClass_of_methodNamed B.named
  have hlocks := B.notSynchronized
  subst hsz
  have hD := hD0.self (sz := s.heap.size)
  generalize hAe : va_A [(h_a, .inr (2, [.ref h_a_rows, .int a_size])), (h_a_rows, .inl (cL, 24, .inr (.inl a_rows)))] s.heap.size = A at hD ⊢
  have hA : ∀ q : Nat, s.heap.size ≤ q → A q := fun q h => by rw [← hAe]; exact Or.inr h
  have hS : va_S A s.heap s.heap [] := va_S.rf
  have hP : va_P (dC, dI) zCl [(h_a, .inr (2, [.ref h_a_rows, .int a_size])), (h_a_rows, .inl (cL, 24, .inr (.inl a_rows)))] s.heap := hP
  have hl := lv_entry ([.ref h_a, .int x0, .long x1, .int x2]) (n := 5) (Nat.le_of_ble_eq_true rfl)
  rw [lg_entry_eq]
  generalize (lg_sl ([.ref h_a, .int x0, .long x1, .int x2]) ++ List.replicate (5 - (lg_sl ([.ref h_a, .int x0, .long x1, .int x2])).length) Slot.unset).toArray = ls at hl ⊢
  have hl : lv_has ls 5 [(0, .ref h_a), (1, .int x0), (2, .long x1), (4, .int x2)] := hl
  have KR : ∀ (pc : Nat) (ls : Array Slot) (H : Heap) (locs : List Loc), decode zc_Set_hasBeginning pc = .ok (.ireturn, 1) → narrow .boolean (.int u) = .int u → va_P (dC, dI) zCl [(h_a, .inr (2, [.ref h_a_rows, .int a_size])), (h_a_rows, .inl (cL, 24, .inr (.inl a_rows)))] H → va_D A [(h_a, .inr (2, [.ref h_a_rows, .int a_size])), (h_a_rows, .inl (cL, 24, .inr (.inl a_rows)))] → va_S A s.heap H locs → W p l e (headSpec zw_Set_hasBeginning ({ frames := 1, cells := 0, slots := 0, locals := 22 })).room s m ([.ref h_a, .int x0, .long x1, .int x2] : List Value).toArray below meth c H locs 0 0 (MQ below (va_Qi (fun (r : Int32) (_ : Unit) => u = r) (fun _ t => va_P (dC, dI) zCl [(h_a, .inr (2, [.ref h_a_rows, .int a_size])), (h_a_rows, .inl (cL, 24, .inr (.inl a_rows)))] t.heap ∧ va_D A [(h_a, .inr (2, [.ref h_a_rows, .int a_size])), (h_a_rows, .inl (cL, 24, .inr (.inl a_rows)))]) A) ([.ref h_a, .int x0, .long x1, .int x2] : List Value).toArray s 0 0 A) (F0 m pc ls [.int u]) := by
    intro pc ls H locs hd hz hP9 hD9 hS
    exact W.zret (v := u) (ty := .boolean) hx hb hr hz (fun t ht hW => ⟨⟨u, (), rfl, rfl, by rw [ht]; exact hP9, hD9⟩, hS.F ht⟩) hS.2.2 hd
  generalize (MQ below (va_Qi (fun (r : Int32) (_ : Unit) => u = r) (fun _ t => va_P (dC, dI) zCl [(h_a, .inr (2, [.ref h_a_rows, .int a_size])), (h_a_rows, .inl (cL, 24, .inr (.inl a_rows)))] t.heap ∧ va_D A [(h_a, .inr (2, [.ref h_a_rows, .int a_size])), (h_a_rows, .inl (cL, 24, .inr (.inl a_rows)))]) A) ([.ref h_a, .int x0, .long x1, .int x2] : List Value).toArray s 0 0 A) = Q at KR ⊢
  unfold m_RowSet_hasBeginning at hm
  refine lv_aload_n hx hb zd_Set_hasBeginning_0 rfl (lv_at hl 0 rfl) ?_
  refine va_get (D := (dC, dI)) (ci := 2) (v := .ref h_a_rows) (C := zR_Set) (T := zT_Set) (N := 2) hx hb hts zu_Set hown hK hP 0 rfl rfl 0 (by decide) (hts _ wk103) (fun _ h9 => h9) rfl zd_Set_hasBeginning_1 ?_
  refine lv_iload_n hx hb zd_Set_hasBeginning_4 rfl (lv_at hl 1 rfl) ?_
  by_cases hi : x0 < 0 ∨ 24 ≤ x0.toNatClampNeg
  · rw [if_pos hi] at hm; cases hm
  rw [if_neg hi] at hm
  refine va_lald hx hb hK hP 1 0 rfl rfl hi zd_Set_hasBeginning_5 ?_
  refine lv_iload hx hb zd_Set_hasBeginning_6 (lv_at hl 3 rfl) ?_
  obtain ⟨u1, hu1, hm⟩ := Option.bind_eq_some_iff.mp hm
  have hPc := hP.sub (ws' := []) [] rfl
  have hDc := hD.sub (ws' := []) [] (by decide) rfl
  have hFc := va_free (wc := []) hD hS hA [] rfl
  refine va_calll (va_runS (As := [.long ((a_rows x0.toNatClampNeg)), .int x2]) (rest := []) ⟨hx, hb, hml, hown, hts⟩ (c_Row_beginning l dC dI cL cI s.heap.size ((a_rows x0.toNatClampNeg)) x2 u1 hu1) (va_cwS 2 hts (zgS wk126 wk36 wk35 wk91) rfl rfl rfl zh_Row_beginning.2 ⟨Nat.le_of_ble_eq_true rfl, Nat.le_of_ble_eq_true rfl⟩) ⟨fun a U g mk q => by obtain ⟨q0, q1, qP, qK, qD⟩ := q; exact ⟨q0, q1, qP, va_K.moved (u := U) (U := U.calling g mk a) (Vm.Alike.refl U.vm) qK, qD⟩, fun U hU hW => ⟨rfl, by rw [hU], by rw [hU]; exact hPc, va_K.moved hW.alike hK, hDc.weaken (fun _ _ _ _ => trivial)⟩⟩ rfl rfl hl.1 rfl (lv_room (Nat.le_of_ble_eq_true rfl)) zd_Set_hasBeginning_8 ⟨Nat.le_of_ble_eq_true rfl, Nat.le_of_ble_eq_true rfl⟩) hS (fun q _ h => hFc q h) hFc (fun r1 _ t H1 locs ht hvm hw hB hz1 hk1 hS => ?_)
  subst hw
  obtain ⟨hP1, hD1⟩ := hB
  rw [ht] at hP1
  obtain ⟨hP, hD⟩ := va_join (wr := [(h_a, .inr (2, [.ref h_a_rows, .int a_size])), (h_a_rows, .inl (cL, 24, .inr (.inl a_rows)))]) (w1 := []) hP hD [] [0, 1] rfl rfl (by decide) (by decide) hk1 hFc hP1 hD1
  generalize H1 = H at hP hS ⊢
  have hP : va_P (dC, dI) zCl [(h_a, .inr (2, [.ref h_a_rows, .int a_size])), (h_a_rows, .inl (cL, 24, .inr (.inl a_rows)))] H := hP.sub [0, 1] rfl
  have hD : va_D A [(h_a, .inr (2, [.ref h_a_rows, .int a_size])), (h_a_rows, .inl (cL, 24, .inr (.inl a_rows)))] := hD.sub [0, 1] (by decide) rfl
  refine lv_lload_n hx hb zd_Set_hasBeginning_11 rfl (lv_at hl 2 rfl) ?_
  refine W.lcmp hx hb zd_Set_hasBeginning_12 ?_
  refine lv_if_ne (tgt := 20) hx hb zd_Set_hasBeginning_13 (by decide) (fun hc => ?_) (fun hc => ?_)
  · rw [if_neg hc] at hm
    refine lv_iconst (v := 0) hx hb zd_Set_hasBeginning_20 (by decide) ?_
    obtain rfl := Option.some.inj hm
    exact KR 21 ls _ _ zd_Set_hasBeginning_21 rfl hP hD hS
  · rw [if_pos hc] at hm
    refine lv_iconst (v := 1) hx hb zd_Set_hasBeginning_16 (by decide) ?_
    refine lv_goto (tgt := 21) hx hb zd_Set_hasBeginning_17 (by decide) ?_
    obtain rfl := Option.some.inj hm
    exact KR 21 ls _ _ zd_Set_hasBeginning_21 rfl hP hD hS
set_option maxHeartbeats 4000000 in
set_option maxRecDepth 100000 in
theorem c_RowSet_rowWith (l : Launch) (dC : Nat → ClassId) (dI : Nat → Nat → Nat) (cL cI : ClassId) (h_a h_a_rows : Nat) (sz : Nat) (x0 : Int64) (x1 : Int32) (x2 : Int32) (a_rows : Nat → Int64) (a_size : Int32) (u : Int64) (hm : m_RowSet_rowWith x0 x1 x2 a_rows a_size = some u) : Met l zy_Set_rowWith zw_Set_rowWith ({ frames := 2, cells := 0, slots := 0, locals := 46 }) (va_Pc [.ref h_a, .long x0, .int x1, .int x2] (fun U => U.heap.size = sz ∧ va_P (dC, dI) zCl [(h_a, .inr (2, [.ref h_a_rows, .int a_size])), (h_a_rows, .inl (cL, 24, .inr (.inl a_rows)))] U.heap ∧ va_K (dC, dI) zCl [(cL, .long), (cI, .int)] U ∧ va_D (fun _ => True) [(h_a, .inr (2, [.ref h_a_rows, .int a_size])), (h_a_rows, .inl (cL, 24, .inr (.inl a_rows)))])) (va_Ql (fun (r : Int64) (_ : Unit) => u = r) (fun _ t => va_P (dC, dI) zCl [(h_a, .inr (2, [.ref h_a_rows, .int a_size])), (h_a_rows, .inl (cL, 24, .inr (.inl a_rows)))] t.heap ∧ va_D (va_A [(h_a, .inr (2, [.ref h_a_rows, .int a_size])), (h_a_rows, .inl (cL, 24, .inr (.inl a_rows)))] sz) [(h_a, .inr (2, [.ref h_a_rows, .int a_size])), (h_a_rows, .inl (cL, 24, .inr (.inl a_rows)))]) (va_A [(h_a, .inr (2, [.ref h_a_rows, .int a_size])), (h_a_rows, .inl (cL, 24, .inr (.inl a_rows)))] sz)) 0 0 (va_A [(h_a, .inr (2, [.ref h_a_rows, .int a_size])), (h_a_rows, .inl (cL, 24, .inr (.inl a_rows)))] sz) := by
  refine Met.ofW (cc := zc_Set_rowWith) (maxL := 6) (ret := (some .long)) (by decide) rfl ?_
  intro p e s m args below meth c s₁ B hml hv
  obtain ⟨rfl, hsz, hP, hK, hD0⟩ := hv
  have hx := B.exec
  have hb := B.bytes
  have hr := B.returns
  have hts0 := atoms_spec (ws := zw_Set_rowWith) B.pre
  have hts : ∀ w ∈ WSg, w.before _ s = true := fun w h => hts0 w (List.mem_cons_of_mem _ h)
  clear hts0
  have hown : s.vm.findClass zR_Set = some m.cls := findClass_of_methodNamed B.named
  have hlocks := B.notSynchronized
  subst hsz
  have hD := hD0.self (sz := s.heap.size)
  generalize hAe : va_A [(h_a, .inr (2, [.ref h_a_rows, .int a_size])), (h_a_rows, .inl (cL, 24, .inr (.inl a_rows)))] s.heap.size = A at hD ⊢
  have hA : ∀ q : Nat, s.heap.size ≤ q → A q := fun q h => by rw [← hAe]; exact Or.inr h
  have hS : va_S A s.heap s.heap [] := va_S.rf
  have hP : va_P (dC, dI) zCl [(h_a, .inr (2, [.ref h_a_rows, .int a_size])), (h_a_rows, .inl (cL, 24, .inr (.inl a_rows)))] s.heap := hP
  have hl := lv_entry ([.ref h_a, .long x0, .int x1, .int x2]) (n := 6) (Nat.le_of_ble_eq_true rfl)
  rw [lg_entry_eq]
  generalize (lg_sl ([.ref h_a, .long x0, .int x1, .int x2]) ++ List.replicate (6 - (lg_sl ([.ref h_a, .long x0, .int x1, .int x2])).length) Slot.unset).toArray = ls at hl ⊢
  have hl : lv_has ls 6 [(0, .ref h_a), (1, .long x0), (3, .int x1), (4, .int x2)] := hl
  have KR : ∀ (pc : Nat) (ls : Array Slot) (H : Heap) (locs : List Loc), decode zc_Set_rowWith pc = .ok (.lreturn, 1) → va_P (dC, dI) zCl [(h_a, .inr (2, [.ref h_a_rows, .int a_size])), (h_a_rows, .inl (cL, 24, .inr (.inl a_rows)))] H → va_D A [(h_a, .inr (2, [.ref h_a_rows, .int a_size])), (h_a_rows, .inl (cL, 24, .inr (.inl a_rows)))] → va_S A s.heap H locs → W p l e (headSpec zw_Set_rowWith ({ frames := 2, cells := 0, slots := 0, locals := 46 })).room s m ([.ref h_a, .long x0, .int x1, .int x2] : List Value).toArray below meth c H locs 0 0 (MQ below (va_Ql (fun (r : Int64) (_ : Unit) => u = r) (fun _ t => va_P (dC, dI) zCl [(h_a, .inr (2, [.ref h_a_rows, .int a_size])), (h_a_rows, .inl (cL, 24, .inr (.inl a_rows)))] t.heap ∧ va_D A [(h_a, .inr (2, [.ref h_a_rows, .int a_size])), (h_a_rows, .inl (cL, 24, .inr (.inl a_rows)))]) A) ([.ref h_a, .long x0, .int x1, .int x2] : List Value).toArray s 0 0 A) (F0 m pc ls [.long u]) := by
    intro pc ls H locs hd hP9 hD9 hS
    exact W.lret (v := u) hx hb hr (fun t ht hW => ⟨⟨u, (), rfl, rfl, by rw [ht]; exact hP9, hD9⟩, hS.F ht⟩) hS.2.2 hd
  generalize (MQ below (va_Ql (fun (r : Int64) (_ : Unit) => u = r) (fun _ t => va_P (dC, dI) zCl [(h_a, .inr (2, [.ref h_a_rows, .int a_size])), (h_a_rows, .inl (cL, 24, .inr (.inl a_rows)))] t.heap ∧ va_D A [(h_a, .inr (2, [.ref h_a_rows, .int a_size])), (h_a_rows, .inl (cL, 24, .inr (.inl a_rows)))]) A) ([.ref h_a, .long x0, .int x1, .int x2] : List Value).toArray s 0 0 A) = Q at KR ⊢
  unfold m_RowSet_rowWith at hm
  refine lv_aload_n hx hb zd_Set_rowWith_0 rfl (lv_at hl 0 rfl) ?_
  refine lv_lload_n hx hb zd_Set_rowWith_1 rfl (lv_at hl 1 rfl) ?_
  obtain ⟨u1, hu1, hm⟩ := Option.bind_eq_some_iff.mp hm
  have hPc := hP
  have hDc := hD
  have hFc := va_free (wc := [(h_a, .inr (2, [.ref h_a_rows, .int a_size])), (h_a_rows, .inl (cL, 24, .inr (.inl a_rows)))]) hD hS hA [0, 1] rfl
  refine va_calli (va_runV (As := [.long x0]) (rest := []) ⟨hx, hb, hml, hown, hts⟩ (c_RowSet_rowsBefore l dC dI cL cI h_a h_a_rows s.heap.size x0 a_rows a_size u1 hu1) (cwV 1 hts (zgV wk108 wk46 wk47 wk11 wk110) rfl rfl rfl zh_Set_rowsBefore ⟨Nat.le_of_ble_eq_true rfl, Nat.le_of_ble_eq_true rfl⟩) ⟨fun a U g mk q => by obtain ⟨q0, q1, qP, qK, qD⟩ := q; exact ⟨q0, q1, qP, va_K.moved (u := U) (U := U.calling g mk a) (Vm.Alike.refl U.vm) qK, qD⟩, va_recv hK hP (ci := 2) (q0 := 0) rfl rfl, fun U hU hW => ⟨rfl, by rw [hU], by rw [hU]; exact hPc, va_K.moved hW.alike hK, hDc.weaken (fun _ _ _ _ => trivial)⟩⟩ rfl rfl hl.1 rfl (lv_room (Nat.le_of_ble_eq_true rfl)) zd_Set_rowWith_2 ⟨Nat.le_of_ble_eq_true rfl, Nat.le_of_ble_eq_true rfl⟩) hS (fun q _ h => hFc q h) hFc (fun r1 _ t H1 locs ht hvm hw hB hz1 hk1 hS => ?_)
  subst hw
  obtain ⟨hP1, hD1⟩ := hB
  rw [ht] at hP1
  have hP := hP1
  have hD := hD1.weaken (fun _ q _ h => hFc q.1 h)
  generalize H1 = H at hP hS ⊢
  refine lv_istore (lv' := [(5, .int u1), (0, .ref h_a), (1, .long x0), (3, .int x1), (4, .int x2)]) hx hb zd_Set_rowWith_5 hl (by decide) rfl (fun ls hl => ?_)
  refine lv_iload hx hb zd_Set_rowWith_7 (lv_at hl 4 rfl) ?_
  refine lv_if_lt (tgt := 38) hx hb zd_Set_rowWith_9 (by decide) (fun hc => ?_) (fun hc => ?_)
  · rw [if_pos hc] at hm
    refine lv_lconst (v := 0) hx hb zd_Set_rowWith_38 (by decide) ?_
    obtain rfl := Option.some.inj hm
    exact KR 39 ls _ _ zd_Set_rowWith_39 hP hD hS
  · rw [if_neg hc] at hm
    refine lv_iload hx hb zd_Set_rowWith_12 (lv_at hl 4 rfl) ?_
    refine lv_aload_n hx hb zd_Set_rowWith_14 rfl (lv_at hl 1 rfl) ?_
    refine va_get (D := (dC, dI)) (ci := 2) (v := .int a_size) (C := zR_Set) (T := zT_Set) (N := 2) hx hb hts zu_Set hown hK hP 0 rfl rfl 1 (by decide) (hts _ wk104) (fun _ h9 => h9) rfl zd_Set_rowWith_15 ?_
    refine lv_iload hx hb zd_Set_rowWith_18 (lv_at hl 0 rfl) ?_
    refine lv_isub hx hb zd_Set_rowWith_20 ?_
    refine lv_icmp_ge (tgt := 38) hx hb zd_Set_rowWith_21 (by decide) (fun hc => ?_) (fun hc => ?_)
    · rw [if_pos hc] at hm
      refine lv_lconst (v := 0) hx hb zd_Set_rowWith_38 (by decide) ?_
      obtain rfl := Option.some.inj hm
      exact KR 39 ls _ _ zd_Set_rowWith_39 hP hD hS
    · rw [if_neg hc] at hm
      refine lv_aload_n hx hb zd_Set_rowWith_24 rfl (lv_at hl 1 rfl) ?_
      refine lv_iload hx hb zd_Set_rowWith_25 (lv_at hl 0 rfl) ?_
      refine lv_iload hx hb zd_Set_rowWith_27 (lv_at hl 4 rfl) ?_
      refine lv_iadd hx hb zd_Set_rowWith_29 ?_
      refine lv_lload_n hx hb zd_Set_rowWith_30 rfl (lv_at hl 2 rfl) ?_
      refine lv_iload_n hx hb zd_Set_rowWith_31 rfl (lv_at hl 3 rfl) ?_
      obtain ⟨u2, hu2, hm⟩ := Option.bind_eq_some_iff.mp hm
      have hPc := hP
      have hDc := hD
      have hFc := va_free (wc := [(h_a, .inr (2, [.ref h_a_rows, .int a_size])), (h_a_rows, .inl (cL, 24, .inr (.inl a_rows)))]) hD hS hA [0, 1] rfl
      refine va_calli (va_runV (As := [.int ((u1 + x2)), .long x0, .int x1]) (rest := []) ⟨hx, hb, hml, hown, hts⟩ (c_RowSet_hasBeginning l dC dI cL cI h_a h_a_rows H.size ((u1 + x2)) x0 x1 a_rows a_size u2 hu2) (cwV 3 hts (zgV wk112 wk113 wk114 wk11 wk127) rfl rfl rfl zh_Set_hasBeginning ⟨Nat.le_of_ble_eq_true rfl, Nat.le_of_ble_eq_true rfl⟩) ⟨fun a U g mk q => by obtain ⟨q0, q1, qP, qK, qD⟩ := q; exact ⟨q0, q1, qP, va_K.moved (u := U) (U := U.calling g mk a) (Vm.Alike.refl U.vm) qK, qD⟩, va_recv hK hP (ci := 2) (q0 := 0) rfl rfl, fun U hU hW => ⟨rfl, by rw [hU], by rw [hU]; exact hPc, va_K.moved hW.alike hK, hDc.weaken (fun _ _ _ _ => trivial)⟩⟩ rfl rfl hl.1 rfl (lv_room (Nat.le_of_ble_eq_true rfl)) zd_Set_rowWith_32 ⟨Nat.le_of_ble_eq_true rfl, Nat.le_of_ble_eq_true rfl⟩) hS (fun q _ h => hFc q h) hFc (fun r1 _ t H1 locs ht hvm hw hB hz1 hk1 hS => ?_)
      subst hw
      obtain ⟨hP1, hD1⟩ := hB
      rw [ht] at hP1
      have hP := hP1
      have hD := hD1.weaken (fun _ q _ h => hFc q.1 h)
      generalize H1 = H at hP hS ⊢
      refine lv_if_ne (tgt := 40) hx hb zd_Set_rowWith_35 (by decide) (fun hc => ?_) (fun hc => ?_)
      · rw [if_neg hc] at hm
        refine lv_aload_n hx hb zd_Set_rowWith_40 rfl (lv_at hl 1 rfl) ?_
        refine va_get (D := (dC, dI)) (ci := 2) (v := .ref h_a_rows) (C := zR_Set) (T := zT_Set) (N := 2) hx hb hts zu_Set hown hK hP 0 rfl rfl 0 (by decide) (hts _ wk103) (fun _ h9 => h9) rfl zd_Set_rowWith_41 ?_
        refine lv_iload hx hb zd_Set_rowWith_44 (lv_at hl 0 rfl) ?_
        refine lv_iload hx hb zd_Set_rowWith_46 (lv_at hl 4 rfl) ?_
        refine lv_iadd hx hb zd_Set_rowWith_48 ?_
        by_cases hi : ((u1 + x2) : Int32) < 0 ∨ 24 ≤ ((u1 + x2) : Int32).toNatClampNeg
        · rw [if_pos hi] at hm; cases hm
        rw [if_neg hi] at hm
        refine va_lald hx hb hK hP 1 0 rfl rfl hi zd_Set_rowWith_49 ?_
        obtain rfl := Option.some.inj hm
        exact KR 50 ls _ _ zd_Set_rowWith_50 hP hD hS
      · rw [if_pos hc] at hm
        refine lv_lconst (v := 0) hx hb zd_Set_rowWith_38 (by decide) ?_
        obtain rfl := Option.some.inj hm
        exact KR 39 ls _ _ zd_Set_rowWith_39 hP hD hS
set_option maxHeartbeats 4000000 in
set_option maxRecDepth 100000 in
theorem c_RowSet_insert (l : Launch) (dC : Nat → ClassId) (dI : Nat → Nat → Nat) (cL cI : ClassId) (h_a h_a_rows : Nat) (sz : Nat) (x0 : Int64) (a_rows : Nat → Int64) (a_size : Int32) (u : (Nat → Int64) × Int32) (hm : m_RowSet_insert x0 a_rows a_size = some u) : Met l zy_Set_insert zw_Set_insert ({ frames := 1, cells := 0, slots := 0, locals := 100 }) (va_Pc [.ref h_a, .long x0] (fun U => U.heap.size = sz ∧ va_P (dC, dI) zCl [(h_a, .inr (2, [.ref h_a_rows, .int a_size])), (h_a_rows, .inl (cL, 24, .inr (.inl a_rows)))] U.heap ∧ va_K (dC, dI) zCl [(cL, .long), (cI, .int)] U ∧ va_D (fun _ => True) [(h_a, .inr (2, [.ref h_a_rows, .int a_size])), (h_a_rows, .inl (cL, 24, .inr (.inl a_rows)))])) (va_Qv (fun _ : Unit => True) (fun _ t => va_P (dC, dI) zCl [(h_a, .inr (2, [.ref h_a_rows, .int u.2])), (h_a_rows, .inl (cL, 24, .inr (.inl u.1)))] t.heap ∧ va_D (va_A [(h_a, .inr (2, [.ref h_a_rows, .int a_size])), (h_a_rows, .inl (cL, 24, .inr (.inl a_rows)))] sz) [(h_a, .inr (2, [.ref h_a_rows, .int u.2])), (h_a_rows, .inl (cL, 24, .inr (.inl u.1)))]) (va_A [(h_a, .inr (2, [.ref h_a_rows, .int a_size])), (h_a_rows, .inl (cL, 24, .inr (.inl a_rows)))] sz)) 0 0 (va_A [(h_a, .inr (2, [.ref h_a_rows, .int a_size])), (h_a_rows, .inl (cL, 24, .inr (.inl a_rows)))] sz) := by
  refine Met.ofW (cc := zc_Set_insert) (maxL := 4) (ret := none) (by decide) rfl ?_
  intro p e s m args below meth c s₁ B hml hv
  obtain ⟨rfl, hsz, hP, hK, hD0⟩ := hv
  have hx := B.exec
  have hb := B.bytes
  have hr := B.returns
  have hts0 := atoms_spec (ws := zw_Set_insert) B.pre
  have hts : ∀ w ∈ WSg, w.before _ s = true := fun w h => hts0 w (List.mem_cons_of_mem _ h)
  clear hts0
  have hown : s.vm.findClass zR_Set = some m.cls := findClass_of_methodNamed B.named
  have hlocks := B.notSynchronized
  subst hsz
  have hD := hD0.self (sz := s.heap.size)
  generalize hAe : va_A [(h_a, .inr (2, [.ref h_a_rows, .int a_size])), (h_a_rows, .inl (cL, 24, .inr (.inl a_rows)))] s.heap.size = A at hD ⊢
  have hA : ∀ q : Nat, s.heap.size ≤ q → A q := fun q h => by rw [← hAe]; exact Or.inr h
  have hS : va_S A s.heap s.heap [] := va_S.rf
  have hP : va_P (dC, dI) zCl [(h_a, .inr (2, [.ref h_a_rows, .int a_size])), (h_a_rows, .inl (cL, 24, .inr (.inl a_rows)))] s.heap := hP
  have hl := lv_entry ([.ref h_a, .long x0]) (n := 4) (Nat.le_of_ble_eq_true rfl)
  rw [lg_entry_eq]
  generalize (lg_sl ([.ref h_a, .long x0]) ++ List.replicate (4 - (lg_sl ([.ref h_a, .long x0])).length) Slot.unset).toArray = ls at hl ⊢
  have hl : lv_has ls 4 [(0, .ref h_a), (1, .long x0)] := hl
  have KR : ∀ (pc : Nat) (ls : Array Slot) (H : Heap) (locs : List Loc), decode zc_Set_insert pc = .ok (.return_, 1) → va_P (dC, dI) zCl [(h_a, .inr (2, [.ref h_a_rows, .int u.2])), (h_a_rows, .inl (cL, 24, .inr (.inl u.1)))] H → va_D A [(h_a, .inr (2, [.ref h_a_rows, .int u.2])), (h_a_rows, .inl (cL, 24, .inr (.inl u.1)))] → va_S A s.heap H locs → W p l e (headSpec zw_Set_insert ({ frames := 1, cells := 0, slots := 0, locals := 100 })).room s m ([.ref h_a, .long x0] : List Value).toArray below meth c H locs 0 0 (MQ below (va_Qv (fun _ : Unit => True) (fun _ t => va_P (dC, dI) zCl [(h_a, .inr (2, [.ref h_a_rows, .int u.2])), (h_a_rows, .inl (cL, 24, .inr (.inl u.1)))] t.heap ∧ va_D A [(h_a, .inr (2, [.ref h_a_rows, .int u.2])), (h_a_rows, .inl (cL, 24, .inr (.inl u.1)))]) A) ([.ref h_a, .long x0] : List Value).toArray s 0 0 A) (F0 m pc ls []) := by
    intro pc ls H locs hd hP9 hD9 hS
    exact W.vret hx hb hr (fun t ht hW => ⟨⟨(), rfl, trivial, by rw [ht]; exact hP9, hD9⟩, hS.F ht⟩) hS.2.2 hd
  generalize (MQ below (va_Qv (fun _ : Unit => True) (fun _ t => va_P (dC, dI) zCl [(h_a, .inr (2, [.ref h_a_rows, .int u.2])), (h_a_rows, .inl (cL, 24, .inr (.inl u.1)))] t.heap ∧ va_D A [(h_a, .inr (2, [.ref h_a_rows, .int u.2])), (h_a_rows, .inl (cL, 24, .inr (.inl u.1)))]) A) ([.ref h_a, .long x0] : List Value).toArray s 0 0 A) = Q at KR ⊢
  unfold m_RowSet_insert at hm
  refine lv_aload_n hx hb zd_Set_insert_0 rfl (lv_at hl 0 rfl) ?_
  refine va_get (D := (dC, dI)) (ci := 2) (v := .int a_size) (C := zR_Set) (T := zT_Set) (N := 2) hx hb hts zu_Set hown hK hP 0 rfl rfl 1 (by decide) (hts _ wk104) (fun _ h9 => h9) rfl zd_Set_insert_1 ?_
  refine lv_bipush (v := 24) hx hb zd_Set_insert_4 (by decide) ?_
  refine lv_icmp_lt (tgt := 10) hx hb zd_Set_insert_6 (by decide) (fun hc => ?_) (fun hc => ?_)
  · rw [if_pos hc] at hm
    refine lv_aload_n hx hb zd_Set_insert_10 rfl (lv_at hl 0 rfl) ?_
    refine lv_lload_n hx hb zd_Set_insert_11 rfl (lv_at hl 1 rfl) ?_
    obtain ⟨u1, hu1, hm⟩ := Option.bind_eq_some_iff.mp hm
    have hPc := hP
    have hDc := hD
    have hFc := va_free (wc := [(h_a, .inr (2, [.ref h_a_rows, .int a_size])), (h_a_rows, .inl (cL, 24, .inr (.inl a_rows)))]) hD hS hA [0, 1] rfl
    refine va_calli (va_runV (As := [.long x0]) (rest := []) ⟨hx, hb, hml, hown, hts⟩ (c_RowSet_rowsBefore l dC dI cL cI h_a h_a_rows s.heap.size x0 a_rows a_size u1 hu1) (cwV 1 hts (zgV wk108 wk46 wk47 wk11 wk110) rfl rfl rfl zh_Set_rowsBefore ⟨Nat.le_of_ble_eq_true rfl, Nat.le_of_ble_eq_true rfl⟩) ⟨fun a U g mk q => by obtain ⟨q0, q1, qP, qK, qD⟩ := q; exact ⟨q0, q1, qP, va_K.moved (u := U) (U := U.calling g mk a) (Vm.Alike.refl U.vm) qK, qD⟩, va_recv hK hP (ci := 2) (q0 := 0) rfl rfl, fun U hU hW => ⟨rfl, by rw [hU], by rw [hU]; exact hPc, va_K.moved hW.alike hK, hDc.weaken (fun _ _ _ _ => trivial)⟩⟩ rfl rfl hl.1 rfl (lv_room (Nat.le_of_ble_eq_true rfl)) zd_Set_insert_12 ⟨Nat.le_of_ble_eq_true rfl, Nat.le_of_ble_eq_true rfl⟩) hS (fun q _ h => hFc q h) hFc (fun r1 _ t H1 locs ht hvm hw hB hz1 hk1 hS => ?_)
    subst hw
    obtain ⟨hP1, hD1⟩ := hB
    rw [ht] at hP1
    have hP := hP1
    have hD := hD1.weaken (fun _ q _ h => hFc q.1 h)
    generalize H1 = H at hP hS ⊢
    refine lv_istore_n (lv' := [(3, .int u1), (0, .ref h_a), (1, .long x0)]) hx hb zd_Set_insert_15 rfl hl (by decide) rfl (fun ls hl => ?_)
    refine lv_aload_n hx hb zd_Set_insert_16 rfl (lv_at hl 1 rfl) ?_
    refine va_get (D := (dC, dI)) (ci := 2) (v := .ref h_a_rows) (C := zR_Set) (T := zT_Set) (N := 2) hx hb hts zu_Set hown hK hP 0 rfl rfl 0 (by decide) (hts _ wk103) (fun _ h9 => h9) rfl zd_Set_insert_17 ?_
    refine lv_iload_n hx hb zd_Set_insert_20 rfl (lv_at hl 0 rfl) ?_
    refine lv_aload_n hx hb zd_Set_insert_21 rfl (lv_at hl 1 rfl) ?_
    refine va_get (D := (dC, dI)) (ci := 2) (v := .ref h_a_rows) (C := zR_Set) (T := zT_Set) (N := 2) hx hb hts zu_Set hown hK hP 0 rfl rfl 0 (by decide) (hts _ wk103) (fun _ h9 => h9) rfl zd_Set_insert_22 ?_
    refine lv_iload_n hx hb zd_Set_insert_25 rfl (lv_at hl 0 rfl) ?_
    refine lv_iconst (v := 1) hx hb zd_Set_insert_26 (by decide) ?_
    refine lv_iadd hx hb zd_Set_insert_27 ?_
    refine lv_aload_n hx hb zd_Set_insert_28 rfl (lv_at hl 1 rfl) ?_
    refine va_get (D := (dC, dI)) (ci := 2) (v := .int a_size) (C := zR_Set) (T := zT_Set) (N := 2) hx hb hts zu_Set hown hK hP 0 rfl rfl 1 (by decide) (hts _ wk104) (fun _ h9 => h9) rfl zd_Set_insert_29 ?_
    refine lv_iload_n hx hb zd_Set_insert_32 rfl (lv_at hl 0 rfl) ?_
    refine lv_isub hx hb zd_Set_insert_33 ?_
    by_cases hi : u1 < 0 ∨ ((u1 + 1) : Int32) < 0 ∨ ((a_size - u1) : Int32) < 0 ∨ 24 < u1.toNatClampNeg + ((a_size - u1) : Int32).toNatClampNeg ∨ 24 < ((u1 + 1) : Int32).toNatClampNeg + ((a_size - u1) : Int32).toNatClampNeg
    · rw [if_pos hi] at hm; cases hm
    rw [if_neg hi] at hm
    have hj1 := fun h => hi (Or.inl h)
    have hj2 := fun h => hi (Or.inr (Or.inl h))
    have hj3 := fun h => hi (Or.inr (Or.inr (Or.inl h)))
    have hj4 := Nat.le_of_not_lt fun h => hi (Or.inr (Or.inr (Or.inr (Or.inl h))))
    have hj5 := Nat.le_of_not_lt fun h => hi (Or.inr (Or.inr (Or.inr (Or.inr h))))
    refine va_copyl hx hb (hml.trans hl.1.symm) hown (hts _ wk106) (hts _ wk19) (hts _ wk20) (hts _ wk21) hK hP hD hS 1 1 0 0 rfl rfl rfl rfl rfl hj1 hj2 hj3 hj4 hj5 (fun _ _ => rfl) (Nat.le_of_ble_eq_true rfl) (Nat.le_of_ble_eq_true rfl) zd_Set_insert_34 (fun H locs hP hD hS => ?_)
    have hP : va_P (dC, dI) zCl [(h_a, .inr (2, [.ref h_a_rows, .int a_size])), (h_a_rows, .inl (cL, 24, .inr (.inl ((va_cpy a_rows a_rows (u1.toNatClampNeg) (((u1 + 1) : Int32).toNatClampNeg) (((a_size - u1) : Int32).toNatClampNeg))))))] H := hP
    have hD : va_D A [(h_a, .inr (2, [.ref h_a_rows, .int a_size])), (h_a_rows, .inl (cL, 24, .inr (.inl ((va_cpy a_rows a_rows (u1.toNatClampNeg) (((u1 + 1) : Int32).toNatClampNeg) (((a_size - u1) : Int32).toNatClampNeg))))))] := hD
    refine lv_aload_n hx hb zd_Set_insert_37 rfl (lv_at hl 1 rfl) ?_
    refine va_get (D := (dC, dI)) (ci := 2) (v := .ref h_a_rows) (C := zR_Set) (T := zT_Set) (N := 2) hx hb hts zu_Set hown hK hP 0 rfl rfl 0 (by decide) (hts _ wk103) (fun _ h9 => h9) rfl zd_Set_insert_38 ?_
    refine lv_iload_n hx hb zd_Set_insert_41 rfl (lv_at hl 0 rfl) ?_
    refine lv_lload_n hx hb zd_Set_insert_42 rfl (lv_at hl 2 rfl) ?_
    by_cases hi : u1 < 0 ∨ 24 ≤ u1.toNatClampNeg
    · rw [if_pos hi] at hm; cases hm
    rw [if_neg hi] at hm
    refine va_last hx hb hK hP hD hS 1 0 rfl rfl hi zd_Set_insert_43 (fun H locs hP hD hS => ?_)
    have hP : va_P (dC, dI) zCl [(h_a, .inr (2, [.ref h_a_rows, .int a_size])), (h_a_rows, .inl (cL, 24, .inr (.inl ((vp_updL ((va_cpy a_rows a_rows (u1.toNatClampNeg) (((u1 + 1) : Int32).toNatClampNeg) (((a_size - u1) : Int32).toNatClampNeg))) u1.toNatClampNeg x0)))))] H := hP
    have hD : va_D A [(h_a, .inr (2, [.ref h_a_rows, .int a_size])), (h_a_rows, .inl (cL, 24, .inr (.inl ((vp_updL ((va_cpy a_rows a_rows (u1.toNatClampNeg) (((u1 + 1) : Int32).toNatClampNeg) (((a_size - u1) : Int32).toNatClampNeg))) u1.toNatClampNeg x0)))))] := hD
    refine lv_aload_n hx hb zd_Set_insert_44 rfl (lv_at hl 1 rfl) ?_
    refine lv_dup hx hb zd_Set_insert_45 rfl ?_
    refine va_get (D := (dC, dI)) (ci := 2) (v := .int a_size) (C := zR_Set) (T := zT_Set) (N := 2) hx hb hts zu_Set hown hK hP 0 rfl rfl 1 (by decide) (hts _ wk104) (fun _ h9 => h9) rfl zd_Set_insert_46 ?_
    refine lv_iconst (v := 1) hx hb zd_Set_insert_49 (by decide) ?_
    refine lv_iadd hx hb zd_Set_insert_50 ?_
    refine va_put (D := (dC, dI)) (ci := 2) (v := .int ((a_size + 1))) (ty := .int) (C := zR_Set) (T := zT_Set) (N := 2) hx hb hts zu_Set zt_Set zt_Set_ok zn_Set hown hK hP hD hS 0 rfl rfl 1 (by decide) (hts _ wk104) (fun _ h9 => h9) rfl (by decide +kernel) rfl rfl (Nat.le_of_ble_eq_true rfl) zd_Set_insert_51 (fun H locs hP hD hS => ?_)
    have hP : va_P (dC, dI) zCl [(h_a, .inr (2, [.ref h_a_rows, .int ((a_size + 1))])), (h_a_rows, .inl (cL, 24, .inr (.inl ((vp_updL ((va_cpy a_rows a_rows (u1.toNatClampNeg) (((u1 + 1) : Int32).toNatClampNeg) (((a_size - u1) : Int32).toNatClampNeg))) u1.toNatClampNeg x0)))))] H := hP
    have hD : va_D A [(h_a, .inr (2, [.ref h_a_rows, .int ((a_size + 1))])), (h_a_rows, .inl (cL, 24, .inr (.inl ((vp_updL ((va_cpy a_rows a_rows (u1.toNatClampNeg) (((u1 + 1) : Int32).toNatClampNeg) (((a_size - u1) : Int32).toNatClampNeg))) u1.toNatClampNeg x0)))))] := hD
    obtain rfl := Option.some.inj hm
    exact KR 54 ls _ _ zd_Set_insert_54 hP hD hS
  · rw [if_neg hc] at hm
    obtain rfl := Option.some.inj hm
    exact KR 9 ls _ _ zd_Set_insert_9 hP hD hS
set_option maxHeartbeats 4000000 in
set_option maxRecDepth 100000 in
theorem c_RowSet_take (l : Launch) (dC : Nat → ClassId) (dI : Nat → Nat → Nat) (cL cI : ClassId) (h_a h_a_rows : Nat) (sz : Nat) (x0 : Int64) (a_rows : Nat → Int64) (a_size : Int32) (u : (Nat → Int64) × Int32) (hm : m_RowSet_take x0 a_rows a_size = some u) : Met l zy_Set_take zw_Set_take ({ frames := 1, cells := 0, slots := 0, locals := 100 }) (va_Pc [.ref h_a, .long x0] (fun U => U.heap.size = sz ∧ va_P (dC, dI) zCl [(h_a, .inr (2, [.ref h_a_rows, .int a_size])), (h_a_rows, .inl (cL, 24, .inr (.inl a_rows)))] U.heap ∧ va_K (dC, dI) zCl [(cL, .long), (cI, .int)] U ∧ va_D (fun _ => True) [(h_a, .inr (2, [.ref h_a_rows, .int a_size])), (h_a_rows, .inl (cL, 24, .inr (.inl a_rows)))])) (va_Qv (fun _ : Unit => True) (fun _ t => va_P (dC, dI) zCl [(h_a, .inr (2, [.ref h_a_rows, .int u.2])), (h_a_rows, .inl (cL, 24, .inr (.inl u.1)))] t.heap ∧ va_D (va_A [(h_a, .inr (2, [.ref h_a_rows, .int a_size])), (h_a_rows, .inl (cL, 24, .inr (.inl a_rows)))] sz) [(h_a, .inr (2, [.ref h_a_rows, .int u.2])), (h_a_rows, .inl (cL, 24, .inr (.inl u.1)))]) (va_A [(h_a, .inr (2, [.ref h_a_rows, .int a_size])), (h_a_rows, .inl (cL, 24, .inr (.inl a_rows)))] sz)) 0 0 (va_A [(h_a, .inr (2, [.ref h_a_rows, .int a_size])), (h_a_rows, .inl (cL, 24, .inr (.inl a_rows)))] sz) := by
  refine Met.ofW (cc := zc_Set_take) (maxL := 4) (ret := none) (by decide) rfl ?_
  intro p e s m args below meth c s₁ B hml hv
  obtain ⟨rfl, hsz, hP, hK, hD0⟩ := hv
  have hx := B.exec
  have hb := B.bytes
  have hr := B.returns
  have hts0 := atoms_spec (ws := zw_Set_take) B.pre
  have hts : ∀ w ∈ WSg, w.before _ s = true := fun w h => hts0 w (List.mem_cons_of_mem _ h)
  clear hts0
  have hown : s.vm.findClass zR_Set = some m.cls := findClass_of_methodNamed B.named
  have hlocks := B.notSynchronized
  subst hsz
  have hD := hD0.self (sz := s.heap.size)
  generalize hAe : va_A [(h_a, .inr (2, [.ref h_a_rows, .int a_size])), (h_a_rows, .inl (cL, 24, .inr (.inl a_rows)))] s.heap.size = A at hD ⊢
  have hA : ∀ q : Nat, s.heap.size ≤ q → A q := fun q h => by rw [← hAe]; exact Or.inr h
  have hS : va_S A s.heap s.heap [] := va_S.rf
  have hP : va_P (dC, dI) zCl [(h_a, .inr (2, [.ref h_a_rows, .int a_size])), (h_a_rows, .inl (cL, 24, .inr (.inl a_rows)))] s.heap := hP
  have hl := lv_entry ([.ref h_a, .long x0]) (n := 4) (Nat.le_of_ble_eq_true rfl)
  rw [lg_entry_eq]
  generalize (lg_sl ([.ref h_a, .long x0]) ++ List.replicate (4 - (lg_sl ([.ref h_a, .long x0])).length) Slot.unset).toArray = ls at hl ⊢
  have hl : lv_has ls 4 [(0, .ref h_a), (1, .long x0)] := hl
  have KR : ∀ (pc : Nat) (ls : Array Slot) (H : Heap) (locs : List Loc), decode zc_Set_take pc = .ok (.return_, 1) → va_P (dC, dI) zCl [(h_a, .inr (2, [.ref h_a_rows, .int u.2])), (h_a_rows, .inl (cL, 24, .inr (.inl u.1)))] H → va_D A [(h_a, .inr (2, [.ref h_a_rows, .int u.2])), (h_a_rows, .inl (cL, 24, .inr (.inl u.1)))] → va_S A s.heap H locs → W p l e (headSpec zw_Set_take ({ frames := 1, cells := 0, slots := 0, locals := 100 })).room s m ([.ref h_a, .long x0] : List Value).toArray below meth c H locs 0 0 (MQ below (va_Qv (fun _ : Unit => True) (fun _ t => va_P (dC, dI) zCl [(h_a, .inr (2, [.ref h_a_rows, .int u.2])), (h_a_rows, .inl (cL, 24, .inr (.inl u.1)))] t.heap ∧ va_D A [(h_a, .inr (2, [.ref h_a_rows, .int u.2])), (h_a_rows, .inl (cL, 24, .inr (.inl u.1)))]) A) ([.ref h_a, .long x0] : List Value).toArray s 0 0 A) (F0 m pc ls []) := by
    intro pc ls H locs hd hP9 hD9 hS
    exact W.vret hx hb hr (fun t ht hW => ⟨⟨(), rfl, trivial, by rw [ht]; exact hP9, hD9⟩, hS.F ht⟩) hS.2.2 hd
  generalize (MQ below (va_Qv (fun _ : Unit => True) (fun _ t => va_P (dC, dI) zCl [(h_a, .inr (2, [.ref h_a_rows, .int u.2])), (h_a_rows, .inl (cL, 24, .inr (.inl u.1)))] t.heap ∧ va_D A [(h_a, .inr (2, [.ref h_a_rows, .int u.2])), (h_a_rows, .inl (cL, 24, .inr (.inl u.1)))]) A) ([.ref h_a, .long x0] : List Value).toArray s 0 0 A) = Q at KR ⊢
  unfold m_RowSet_take at hm
  refine lv_aload_n hx hb zd_Set_take_0 rfl (lv_at hl 0 rfl) ?_
  refine lv_lload_n hx hb zd_Set_take_1 rfl (lv_at hl 1 rfl) ?_
  obtain ⟨u1, hu1, hm⟩ := Option.bind_eq_some_iff.mp hm
  have hPc := hP
  have hDc := hD
  have hFc := va_free (wc := [(h_a, .inr (2, [.ref h_a_rows, .int a_size])), (h_a_rows, .inl (cL, 24, .inr (.inl a_rows)))]) hD hS hA [0, 1] rfl
  refine va_calli (va_runV (As := [.long x0]) (rest := []) ⟨hx, hb, hml, hown, hts⟩ (c_RowSet_rowsBefore l dC dI cL cI h_a h_a_rows s.heap.size x0 a_rows a_size u1 hu1) (cwV 1 hts (zgV wk108 wk46 wk47 wk11 wk110) rfl rfl rfl zh_Set_rowsBefore ⟨Nat.le_of_ble_eq_true rfl, Nat.le_of_ble_eq_true rfl⟩) ⟨fun a U g mk q => by obtain ⟨q0, q1, qP, qK, qD⟩ := q; exact ⟨q0, q1, qP, va_K.moved (u := U) (U := U.calling g mk a) (Vm.Alike.refl U.vm) qK, qD⟩, va_recv hK hP (ci := 2) (q0 := 0) rfl rfl, fun U hU hW => ⟨rfl, by rw [hU], by rw [hU]; exact hPc, va_K.moved hW.alike hK, hDc.weaken (fun _ _ _ _ => trivial)⟩⟩ rfl rfl hl.1 rfl (lv_room (Nat.le_of_ble_eq_true rfl)) zd_Set_take_2 ⟨Nat.le_of_ble_eq_true rfl, Nat.le_of_ble_eq_true rfl⟩) hS (fun q _ h => hFc q h) hFc (fun r1 _ t H1 locs ht hvm hw hB hz1 hk1 hS => ?_)
  subst hw
  obtain ⟨hP1, hD1⟩ := hB
  rw [ht] at hP1
  have hP := hP1
  have hD := hD1.weaken (fun _ q _ h => hFc q.1 h)
  generalize H1 = H at hP hS ⊢
  refine lv_istore_n (lv' := [(3, .int u1), (0, .ref h_a), (1, .long x0)]) hx hb zd_Set_take_5 rfl hl (by decide) rfl (fun ls hl => ?_)
  refine lv_iload_n hx hb zd_Set_take_6 rfl (lv_at hl 0 rfl) ?_
  refine lv_aload_n hx hb zd_Set_take_7 rfl (lv_at hl 1 rfl) ?_
  refine va_get (D := (dC, dI)) (ci := 2) (v := .int a_size) (C := zR_Set) (T := zT_Set) (N := 2) hx hb hts zu_Set hown hK hP 0 rfl rfl 1 (by decide) (hts _ wk104) (fun _ h9 => h9) rfl zd_Set_take_8 ?_
  refine lv_icmp_ge (tgt := 25) hx hb zd_Set_take_11 (by decide) (fun hc => ?_) (fun hc => ?_)
  · rw [if_pos hc] at hm
    obtain rfl := Option.some.inj hm
    exact KR 25 ls _ _ zd_Set_take_25 hP hD hS
  · rw [if_neg hc] at hm
    refine lv_aload_n hx hb zd_Set_take_14 rfl (lv_at hl 1 rfl) ?_
    refine va_get (D := (dC, dI)) (ci := 2) (v := .ref h_a_rows) (C := zR_Set) (T := zT_Set) (N := 2) hx hb hts zu_Set hown hK hP 0 rfl rfl 0 (by decide) (hts _ wk103) (fun _ h9 => h9) rfl zd_Set_take_15 ?_
    refine lv_iload_n hx hb zd_Set_take_18 rfl (lv_at hl 0 rfl) ?_
    by_cases hi : u1 < 0 ∨ 24 ≤ u1.toNatClampNeg
    · rw [if_pos hi] at hm; cases hm
    rw [if_neg hi] at hm
    refine va_lald hx hb hK hP 1 0 rfl rfl hi zd_Set_take_19 ?_
    refine lv_lload_n hx hb zd_Set_take_20 rfl (lv_at hl 2 rfl) ?_
    refine W.lcmp hx hb zd_Set_take_21 ?_
    refine lv_if_eq (tgt := 26) hx hb zd_Set_take_22 (by decide) (fun hc => ?_) (fun hc => ?_)
    · rw [if_pos hc] at hm
      refine lv_aload_n hx hb zd_Set_take_26 rfl (lv_at hl 1 rfl) ?_
      refine lv_dup hx hb zd_Set_take_27 rfl ?_
      refine va_get (D := (dC, dI)) (ci := 2) (v := .int a_size) (C := zR_Set) (T := zT_Set) (N := 2) hx hb hts zu_Set hown hK hP 0 rfl rfl 1 (by decide) (hts _ wk104) (fun _ h9 => h9) rfl zd_Set_take_28 ?_
      refine lv_iconst (v := 1) hx hb zd_Set_take_31 (by decide) ?_
      refine lv_isub hx hb zd_Set_take_32 ?_
      refine va_put (D := (dC, dI)) (ci := 2) (v := .int ((a_size - 1))) (ty := .int) (C := zR_Set) (T := zT_Set) (N := 2) hx hb hts zu_Set zt_Set zt_Set_ok zn_Set hown hK hP hD hS 0 rfl rfl 1 (by decide) (hts _ wk104) (fun _ h9 => h9) rfl (by decide +kernel) rfl rfl (Nat.le_of_ble_eq_true rfl) zd_Set_take_33 (fun H locs hP hD hS => ?_)
      have hP : va_P (dC, dI) zCl [(h_a, .inr (2, [.ref h_a_rows, .int ((a_size - 1))])), (h_a_rows, .inl (cL, 24, .inr (.inl a_rows)))] H := hP
      have hD : va_D A [(h_a, .inr (2, [.ref h_a_rows, .int ((a_size - 1))])), (h_a_rows, .inl (cL, 24, .inr (.inl a_rows)))] := hD
      refine lv_aload_n hx hb zd_Set_take_36 rfl (lv_at hl 1 rfl) ?_
      refine va_get (D := (dC, dI)) (ci := 2) (v := .ref h_a_rows) (C := zR_Set) (T := zT_Set) (N := 2) hx hb hts zu_Set hown hK hP 0 rfl rfl 0 (by decide) (hts _ wk103) (fun _ h9 => h9) rfl zd_Set_take_37 ?_
      refine lv_iload_n hx hb zd_Set_take_40 rfl (lv_at hl 0 rfl) ?_
      refine lv_iconst (v := 1) hx hb zd_Set_take_41 (by decide) ?_
      refine lv_iadd hx hb zd_Set_take_42 ?_
      refine lv_aload_n hx hb zd_Set_take_43 rfl (lv_at hl 1 rfl) ?_
      refine va_get (D := (dC, dI)) (ci := 2) (v := .ref h_a_rows) (C := zR_Set) (T := zT_Set) (N := 2) hx hb hts zu_Set hown hK hP 0 rfl rfl 0 (by decide) (hts _ wk103) (fun _ h9 => h9) rfl zd_Set_take_44 ?_
      refine lv_iload_n hx hb zd_Set_take_47 rfl (lv_at hl 0 rfl) ?_
      refine lv_aload_n hx hb zd_Set_take_48 rfl (lv_at hl 1 rfl) ?_
      refine va_get (D := (dC, dI)) (ci := 2) (v := .int ((a_size - 1))) (C := zR_Set) (T := zT_Set) (N := 2) hx hb hts zu_Set hown hK hP 0 rfl rfl 1 (by decide) (hts _ wk104) (fun _ h9 => h9) rfl zd_Set_take_49 ?_
      refine lv_iload_n hx hb zd_Set_take_52 rfl (lv_at hl 0 rfl) ?_
      refine lv_isub hx hb zd_Set_take_53 ?_
      by_cases hi : ((u1 + 1) : Int32) < 0 ∨ u1 < 0 ∨ (((a_size - 1) - u1) : Int32) < 0 ∨ 24 < ((u1 + 1) : Int32).toNatClampNeg + (((a_size - 1) - u1) : Int32).toNatClampNeg ∨ 24 < u1.toNatClampNeg + (((a_size - 1) - u1) : Int32).toNatClampNeg
      · rw [if_pos hi] at hm; cases hm
      rw [if_neg hi] at hm
      have hj1 := fun h => hi (Or.inl h)
      have hj2 := fun h => hi (Or.inr (Or.inl h))
      have hj3 := fun h => hi (Or.inr (Or.inr (Or.inl h)))
      have hj4 := Nat.le_of_not_lt fun h => hi (Or.inr (Or.inr (Or.inr (Or.inl h))))
      have hj5 := Nat.le_of_not_lt fun h => hi (Or.inr (Or.inr (Or.inr (Or.inr h))))
      refine va_copyl hx hb (hml.trans hl.1.symm) hown (hts _ wk106) (hts _ wk19) (hts _ wk20) (hts _ wk21) hK hP hD hS 1 1 0 0 rfl rfl rfl rfl rfl hj1 hj2 hj3 hj4 hj5 (fun _ _ => rfl) (Nat.le_of_ble_eq_true rfl) (Nat.le_of_ble_eq_true rfl) zd_Set_take_54 (fun H locs hP hD hS => ?_)
      have hP : va_P (dC, dI) zCl [(h_a, .inr (2, [.ref h_a_rows, .int ((a_size - 1))])), (h_a_rows, .inl (cL, 24, .inr (.inl ((va_cpy a_rows a_rows (((u1 + 1) : Int32).toNatClampNeg) (u1.toNatClampNeg) ((((a_size - 1) - u1) : Int32).toNatClampNeg))))))] H := hP
      have hD : va_D A [(h_a, .inr (2, [.ref h_a_rows, .int ((a_size - 1))])), (h_a_rows, .inl (cL, 24, .inr (.inl ((va_cpy a_rows a_rows (((u1 + 1) : Int32).toNatClampNeg) (u1.toNatClampNeg) ((((a_size - 1) - u1) : Int32).toNatClampNeg))))))] := hD
      obtain rfl := Option.some.inj hm
      exact KR 57 ls _ _ zd_Set_take_57 hP hD hS
    · rw [if_neg hc] at hm
      obtain rfl := Option.some.inj hm
      exact KR 25 ls _ _ zd_Set_take_25 hP hD hS
set_option maxHeartbeats 4000000 in
set_option maxRecDepth 100000 in
theorem c_RowSet_isPlace (l : Launch) (dC : Nat → ClassId) (dI : Nat → Nat → Nat) (cL cI : ClassId) (h_a h_a_rows : Nat) (sz : Nat) (x0 : Int32) (x1 : Int32) (a_rows : Nat → Int64) (a_size : Int32) (u : Int32) (hm : m_RowSet_isPlace x0 x1 a_rows a_size = some u) : Met l zy_Set_isPlace zw_Set_isPlace ({ frames := 2, cells := 0, slots := 0, locals := 46 }) (va_Pc [.ref h_a, .int x0, .int x1] (fun U => U.heap.size = sz ∧ va_P (dC, dI) zCl [(h_a, .inr (2, [.ref h_a_rows, .int a_size])), (h_a_rows, .inl (cL, 24, .inr (.inl a_rows)))] U.heap ∧ va_K (dC, dI) zCl [(cL, .long), (cI, .int)] U ∧ va_D (fun _ => True) [(h_a, .inr (2, [.ref h_a_rows, .int a_size])), (h_a_rows, .inl (cL, 24, .inr (.inl a_rows)))])) (va_Qi (fun (r : Int32) (_ : Unit) => u = r) (fun _ t => va_P (dC, dI) zCl [(h_a, .inr (2, [.ref h_a_rows, .int a_size])), (h_a_rows, .inl (cL, 24, .inr (.inl a_rows)))] t.heap ∧ va_D (va_A [(h_a, .inr (2, [.ref h_a_rows, .int a_size])), (h_a_rows, .inl (cL, 24, .inr (.inl a_rows)))] sz) [(h_a, .inr (2, [.ref h_a_rows, .int a_size])), (h_a_rows, .inl (cL, 24, .inr (.inl a_rows)))]) (va_A [(h_a, .inr (2, [.ref h_a_rows, .int a_size])), (h_a_rows, .inl (cL, 24, .inr (.inl a_rows)))] sz)) 0 0 (va_A [(h_a, .inr (2, [.ref h_a_rows, .int a_size])), (h_a_rows, .inl (cL, 24, .inr (.inl a_rows)))] sz) := by
  refine Met.ofW (cc := zc_Set_isPlace) (maxL := 6) (ret := (some .boolean)) (by decide) rfl ?_
  intro p e s m args below meth c s₁ B hml hv
  obtain ⟨rfl, hsz, hP, hK, hD0⟩ := hv
  have hx := B.exec
  have hb := B.bytes
  have hr := B.returns
  have hts0 := atoms_spec (ws := zw_Set_isPlace) B.pre
  have hts : ∀ w ∈ WSg, w.before _ s = true := fun w h => hts0 w (List.mem_cons_of_mem _ h)
  clear hts0
  have hown : s.vm.findClass zR_Set = some m.cls := findClass_of_methodNamed B.named
  have hlocks := B.notSynchronized
  subst hsz
  have hD := hD0.self (sz := s.heap.size)
  generalize hAe : va_A [(h_a, .inr (2, [.ref h_a_rows, .int a_size])), (h_a_rows, .inl (cL, 24, .inr (.inl a_rows)))] s.heap.size = A at hD ⊢
  have hA : ∀ q : Nat, s.heap.size ≤ q → A q := fun q h => by rw [← hAe]; exact Or.inr h
  have hS : va_S A s.heap s.heap [] := va_S.rf
  have hP : va_P (dC, dI) zCl [(h_a, .inr (2, [.ref h_a_rows, .int a_size])), (h_a_rows, .inl (cL, 24, .inr (.inl a_rows)))] s.heap := hP
  have hl := lv_entry ([.ref h_a, .int x0, .int x1]) (n := 6) (Nat.le_of_ble_eq_true rfl)
  rw [lg_entry_eq]
  generalize (lg_sl ([.ref h_a, .int x0, .int x1]) ++ List.replicate (6 - (lg_sl ([.ref h_a, .int x0, .int x1])).length) Slot.unset).toArray = ls at hl ⊢
  have hl : lv_has ls 6 [(0, .ref h_a), (1, .int x0), (2, .int x1)] := hl
  have KR : ∀ (pc : Nat) (ls : Array Slot) (H : Heap) (locs : List Loc), decode zc_Set_isPlace pc = .ok (.ireturn, 1) → narrow .boolean (.int u) = .int u → va_P (dC, dI) zCl [(h_a, .inr (2, [.ref h_a_rows, .int a_size])), (h_a_rows, .inl (cL, 24, .inr (.inl a_rows)))] H → va_D A [(h_a, .inr (2, [.ref h_a_rows, .int a_size])), (h_a_rows, .inl (cL, 24, .inr (.inl a_rows)))] → va_S A s.heap H locs → W p l e (headSpec zw_Set_isPlace ({ frames := 2, cells := 0, slots := 0, locals := 46 })).room s m ([.ref h_a, .int x0, .int x1] : List Value).toArray below meth c H locs 0 0 (MQ below (va_Qi (fun (r : Int32) (_ : Unit) => u = r) (fun _ t => va_P (dC, dI) zCl [(h_a, .inr (2, [.ref h_a_rows, .int a_size])), (h_a_rows, .inl (cL, 24, .inr (.inl a_rows)))] t.heap ∧ va_D A [(h_a, .inr (2, [.ref h_a_rows, .int a_size])), (h_a_rows, .inl (cL, 24, .inr (.inl a_rows)))]) A) ([.ref h_a, .int x0, .int x1] : List Value).toArray s 0 0 A) (F0 m pc ls [.int u]) := by
    intro pc ls H locs hd hz hP9 hD9 hS
    exact W.zret (v := u) (ty := .boolean) hx hb hr hz (fun t ht hW => ⟨⟨u, (), rfl, rfl, by rw [ht]; exact hP9, hD9⟩, hS.F ht⟩) hS.2.2 hd
  generalize (MQ below (va_Qi (fun (r : Int32) (_ : Unit) => u = r) (fun _ t => va_P (dC, dI) zCl [(h_a, .inr (2, [.ref h_a_rows, .int a_size])), (h_a_rows, .inl (cL, 24, .inr (.inl a_rows)))] t.heap ∧ va_D A [(h_a, .inr (2, [.ref h_a_rows, .int a_size])), (h_a_rows, .inl (cL, 24, .inr (.inl a_rows)))]) A) ([.ref h_a, .int x0, .int x1] : List Value).toArray s 0 0 A) = Q at KR ⊢
  have L27 : ∀ (n : Nat) (l1 : Int32) (l2 : Int32) (l3 : Int64) (l5 : Int32) (a_rows : Nat → Int64) (a_size : Int32) (ls : Array Slot) (H : Heap) (locs : List Loc) (uu : (Int32)), lv_has ls 6 [(0, .ref h_a), (1, .int l1), (2, .int l2), (3, .long l3), (5, .int l5)] → va_P (dC, dI) zCl [(h_a, .inr (2, [.ref h_a_rows, .int a_size])), (h_a_rows, .inl (cL, 24, .inr (.inl a_rows)))] H → va_D A [(h_a, .inr (2, [.ref h_a_rows, .int a_size])), (h_a_rows, .inl (cL, 24, .inr (.inl a_rows)))] → va_S A s.heap H locs → m_RowSet_isPlace_l27 l2 l3 a_rows a_size n l5 = some uu → (∀ (ls : Array Slot) (H : Heap) (locs : List Loc), lv_has ls 6 [(0, .ref h_a), (1, .int l1), (2, .int l2), (3, .long l3), (5, .int uu)] → va_P (dC, dI) zCl [(h_a, .inr (2, [.ref h_a_rows, .int a_size])), (h_a_rows, .inl (cL, 24, .inr (.inl a_rows)))] H → va_D A [(h_a, .inr (2, [.ref h_a_rows, .int a_size])), (h_a_rows, .inl (cL, 24, .inr (.inl a_rows)))] → va_S A s.heap H locs → W p l e (headSpec zw_Set_isPlace ({ frames := 2, cells := 0, slots := 0, locals := 46 })).room s m ([.ref h_a, .int x0, .int x1] : List Value).toArray below meth c H locs 0 0 Q (F0 m 57 ls [])) → W p l e (headSpec zw_Set_isPlace ({ frames := 2, cells := 0, slots := 0, locals := 46 })).room s m ([.ref h_a, .int x0, .int x1] : List Value).toArray below meth c H locs 0 0 Q (F0 m 27 ls []) := by
    intro n
    induction n with
    | zero =>
      intro l1 l2 l3 l5 a_rows a_size ls H locs uu hl hP hD hS hm K
      rw [m_RowSet_isPlace_l27] at hm
      cases hm
    | succ n ih =>
      intro l1 l2 l3 l5 a_rows a_size ls H locs uu hl hP hD hS hm K
      rw [m_RowSet_isPlace_l27] at hm
      refine lv_iload hx hb zd_Set_isPlace_27 (lv_at hl 4 rfl) ?_
      refine lv_iconst (v := 1) hx hb zd_Set_isPlace_29 (by decide) ?_
      refine lv_iadd hx hb zd_Set_isPlace_30 ?_
      refine lv_aload_n hx hb zd_Set_isPlace_31 rfl (lv_at hl 0 rfl) ?_
      refine va_get (D := (dC, dI)) (ci := 2) (v := .int a_size) (C := zR_Set) (T := zT_Set) (N := 2) hx hb hts zu_Set hown hK hP 0 rfl rfl 1 (by decide) (hts _ wk104) (fun _ h9 => h9) rfl zd_Set_isPlace_32 ?_
      refine lv_icmp_ge (tgt := 57) hx hb zd_Set_isPlace_35 (by decide) (fun hc => ?_) (fun hc => ?_)
      · rw [if_pos hc] at hm
        obtain rfl := Option.some.inj hm
        exact K ls H locs (lv_sub hl [0, 1, 2, 3, 4] rfl) hP hD hS
      · rw [if_neg hc] at hm
        refine lv_aload_n hx hb zd_Set_isPlace_38 rfl (lv_at hl 0 rfl) ?_
        refine lv_iload hx hb zd_Set_isPlace_39 (lv_at hl 4 rfl) ?_
        refine lv_iconst (v := 1) hx hb zd_Set_isPlace_41 (by decide) ?_
        refine lv_iadd hx hb zd_Set_isPlace_42 ?_
        refine lv_lload_n hx hb zd_Set_isPlace_43 rfl (lv_at hl 3 rfl) ?_
        refine lv_iload_n hx hb zd_Set_isPlace_44 rfl (lv_at hl 2 rfl) ?_
        obtain ⟨u2, hu2, hm⟩ := Option.bind_eq_some_iff.mp hm
        have hPc := hP
        have hDc := hD
        have hFc := va_free (wc := [(h_a, .inr (2, [.ref h_a_rows, .int a_size])), (h_a_rows, .inl (cL, 24, .inr (.inl a_rows)))]) hD hS hA [0, 1] rfl
        refine va_calli (va_runV (As := [.int ((l5 + 1)), .long l3, .int l2]) (rest := []) ⟨hx, hb, hml, hown, hts⟩ (c_RowSet_hasBeginning l dC dI cL cI h_a h_a_rows H.size ((l5 + 1)) l3 l2 a_rows a_size u2 hu2) (cwV 3 hts (zgV wk112 wk113 wk114 wk11 wk127) rfl rfl rfl zh_Set_hasBeginning ⟨Nat.le_of_ble_eq_true rfl, Nat.le_of_ble_eq_true rfl⟩) ⟨fun a U g mk q => by obtain ⟨q0, q1, qP, qK, qD⟩ := q; exact ⟨q0, q1, qP, va_K.moved (u := U) (U := U.calling g mk a) (Vm.Alike.refl U.vm) qK, qD⟩, va_recv hK hP (ci := 2) (q0 := 0) rfl rfl, fun U hU hW => ⟨rfl, by rw [hU], by rw [hU]; exact hPc, va_K.moved hW.alike hK, hDc.weaken (fun _ _ _ _ => trivial)⟩⟩ rfl rfl hl.1 rfl (lv_room (Nat.le_of_ble_eq_true rfl)) zd_Set_isPlace_45 ⟨Nat.le_of_ble_eq_true rfl, Nat.le_of_ble_eq_true rfl⟩) hS (fun q _ h => hFc q h) hFc (fun r1 _ t H1 locs ht hvm hw hB hz1 hk1 hS => ?_)
        subst hw
        obtain ⟨hP1, hD1⟩ := hB
        rw [ht] at hP1
        have hP := hP1
        have hD := hD1.weaken (fun _ q _ h => hFc q.1 h)
        generalize H1 = H at hP hS ⊢
        refine lv_if_eq (tgt := 57) hx hb zd_Set_isPlace_48 (by decide) (fun hc => ?_) (fun hc => ?_)
        · rw [if_pos hc] at hm
          obtain rfl := Option.some.inj hm
          exact K ls H locs (lv_sub hl [0, 1, 2, 3, 4] rfl) hP hD hS
        · rw [if_neg hc] at hm
          refine lv_iinc (k := 4) (v := (l5 + 1)) (lv' := [(5, .int ((l5 + 1))), (0, .ref h_a), (1, .int l1), (2, .int l2), (3, .long l3)]) hx hb zd_Set_isPlace_51 hl rfl rfl (by decide) rfl (fun ls hl => ?_)
          refine lv_goto (tgt := 27) hx hb zd_Set_isPlace_54 (by decide) ?_
          exact ih l1 l2 l3 ((l5 + 1)) a_rows a_size ls H locs uu (lv_sub hl [1, 2, 3, 4, 0] rfl) hP hD hS hm K
  unfold m_RowSet_isPlace at hm
  refine lv_aload_n hx hb zd_Set_isPlace_0 rfl (lv_at hl 0 rfl) ?_
  refine va_get (D := (dC, dI)) (ci := 2) (v := .ref h_a_rows) (C := zR_Set) (T := zT_Set) (N := 2) hx hb hts zu_Set hown hK hP 0 rfl rfl 0 (by decide) (hts _ wk103) (fun _ h9 => h9) rfl zd_Set_isPlace_1 ?_
  refine lv_iload_n hx hb zd_Set_isPlace_4 rfl (lv_at hl 1 rfl) ?_
  by_cases hi : x0 < 0 ∨ 24 ≤ x0.toNatClampNeg
  · rw [if_pos hi] at hm; cases hm
  rw [if_neg hi] at hm
  refine va_lald hx hb hK hP 1 0 rfl rfl hi zd_Set_isPlace_5 ?_
  refine lv_iload_n hx hb zd_Set_isPlace_6 rfl (lv_at hl 2 rfl) ?_
  obtain ⟨u1, hu1, hm⟩ := Option.bind_eq_some_iff.mp hm
  have hPc := hP.sub (ws' := []) [] rfl
  have hDc := hD.sub (ws' := []) [] (by decide) rfl
  have hFc := va_free (wc := []) hD hS hA [] rfl
  refine va_calll (va_runS (As := [.long ((a_rows x0.toNatClampNeg)), .int x1]) (rest := []) ⟨hx, hb, hml, hown, hts⟩ (c_Row_beginning l dC dI cL cI s.heap.size ((a_rows x0.toNatClampNeg)) x1 u1 hu1) (va_cwS 2 hts (zgS wk126 wk36 wk35 wk91) rfl rfl rfl zh_Row_beginning.2 ⟨Nat.le_of_ble_eq_true rfl, Nat.le_of_ble_eq_true rfl⟩) ⟨fun a U g mk q => by obtain ⟨q0, q1, qP, qK, qD⟩ := q; exact ⟨q0, q1, qP, va_K.moved (u := U) (U := U.calling g mk a) (Vm.Alike.refl U.vm) qK, qD⟩, fun U hU hW => ⟨rfl, by rw [hU], by rw [hU]; exact hPc, va_K.moved hW.alike hK, hDc.weaken (fun _ _ _ _ => trivial)⟩⟩ rfl rfl hl.1 rfl (lv_room (Nat.le_of_ble_eq_true rfl)) zd_Set_isPlace_7 ⟨Nat.le_of_ble_eq_true rfl, Nat.le_of_ble_eq_true rfl⟩) hS (fun q _ h => hFc q h) hFc (fun r1 _ t H1 locs ht hvm hw hB hz1 hk1 hS => ?_)
  subst hw
  obtain ⟨hP1, hD1⟩ := hB
  rw [ht] at hP1
  obtain ⟨hP, hD⟩ := va_join (wr := [(h_a, .inr (2, [.ref h_a_rows, .int a_size])), (h_a_rows, .inl (cL, 24, .inr (.inl a_rows)))]) (w1 := []) hP hD [] [0, 1] rfl rfl (by decide) (by decide) hk1 hFc hP1 hD1
  generalize H1 = H at hP hS ⊢
  have hP : va_P (dC, dI) zCl [(h_a, .inr (2, [.ref h_a_rows, .int a_size])), (h_a_rows, .inl (cL, 24, .inr (.inl a_rows)))] H := hP.sub [0, 1] rfl
  have hD : va_D A [(h_a, .inr (2, [.ref h_a_rows, .int a_size])), (h_a_rows, .inl (cL, 24, .inr (.inl a_rows)))] := hD.sub [0, 1] (by decide) rfl
  refine lv_lstore_n (lv' := [(3, .long u1), (0, .ref h_a), (1, .int x0), (2, .int x1)]) hx hb zd_Set_isPlace_10 rfl hl (by decide) rfl (fun ls hl => ?_)
  refine lv_aload_n hx hb zd_Set_isPlace_11 rfl (lv_at hl 1 rfl) ?_
  refine va_get (D := (dC, dI)) (ci := 2) (v := .ref h_a_rows) (C := zR_Set) (T := zT_Set) (N := 2) hx hb hts zu_Set hown hK hP 0 rfl rfl 0 (by decide) (hts _ wk103) (fun _ h9 => h9) rfl zd_Set_isPlace_12 ?_
  refine lv_iload_n hx hb zd_Set_isPlace_15 rfl (lv_at hl 2 rfl) ?_
  by_cases hi : x0 < 0 ∨ 24 ≤ x0.toNatClampNeg
  · rw [if_pos hi] at hm; cases hm
  rw [if_neg hi] at hm
  refine va_lald hx hb hK hP 1 0 rfl rfl hi zd_Set_isPlace_16 ?_
  refine lv_lload_n hx hb zd_Set_isPlace_17 rfl (lv_at hl 0 rfl) ?_
  refine W.lcmp hx hb zd_Set_isPlace_18 ?_
  refine lv_if_ne (tgt := 24) hx hb zd_Set_isPlace_19 (by decide) (fun hc => ?_) (fun hc => ?_)
  · rw [if_neg hc] at hm
    refine lv_iload_n hx hb zd_Set_isPlace_24 rfl (lv_at hl 2 rfl) ?_
    refine lv_istore (lv' := [(5, .int x0), (3, .long u1), (0, .ref h_a), (1, .int x0), (2, .int x1)]) hx hb zd_Set_isPlace_25 hl (by decide) rfl (fun ls hl => ?_)
    obtain ⟨u3, hu3, hm⟩ := Option.bind_eq_some_iff.mp hm
    refine L27 100 x0 x1 u1 x0 a_rows a_size ls _ _ u3 (lv_sub hl [2, 3, 4, 1, 0] rfl) hP hD hS hu3 (fun ls H locs hl hP hD hS => ?_)
    refine lv_aload_n hx hb zd_Set_isPlace_57 rfl (lv_at hl 0 rfl) ?_
    refine va_get (D := (dC, dI)) (ci := 2) (v := .ref h_a_rows) (C := zR_Set) (T := zT_Set) (N := 2) hx hb hts zu_Set hown hK hP 0 rfl rfl 0 (by decide) (hts _ wk103) (fun _ h9 => h9) rfl zd_Set_isPlace_58 ?_
    refine lv_iload_n hx hb zd_Set_isPlace_61 rfl (lv_at hl 1 rfl) ?_
    by_cases hi : x0 < 0 ∨ 24 ≤ x0.toNatClampNeg
    · rw [if_pos hi] at hm; cases hm
    rw [if_neg hi] at hm
    refine va_lald hx hb hK hP 1 0 rfl rfl hi zd_Set_isPlace_62 ?_
    refine lv_iload_n hx hb zd_Set_isPlace_63 rfl (lv_at hl 2 rfl) ?_
    refine lv_iconst (v := 1) hx hb zd_Set_isPlace_64 (by decide) ?_
    refine lv_iadd hx hb zd_Set_isPlace_65 ?_
    obtain ⟨u4, hu4, hm⟩ := Option.bind_eq_some_iff.mp hm
    have hPc := hP.sub (ws' := []) [] rfl
    have hDc := hD.sub (ws' := []) [] (by decide) rfl
    have hFc := va_free (wc := []) hD hS hA [] rfl
    refine va_calll (va_runS (As := [.long ((a_rows x0.toNatClampNeg)), .int ((x1 + 1))]) (rest := []) ⟨hx, hb, hml, hown, hts⟩ (c_Row_beginning l dC dI cL cI H.size ((a_rows x0.toNatClampNeg)) ((x1 + 1)) u4 hu4) (va_cwS 2 hts (zgS wk126 wk36 wk35 wk91) rfl rfl rfl zh_Row_beginning.2 ⟨Nat.le_of_ble_eq_true rfl, Nat.le_of_ble_eq_true rfl⟩) ⟨fun a U g mk q => by obtain ⟨q0, q1, qP, qK, qD⟩ := q; exact ⟨q0, q1, qP, va_K.moved (u := U) (U := U.calling g mk a) (Vm.Alike.refl U.vm) qK, qD⟩, fun U hU hW => ⟨rfl, by rw [hU], by rw [hU]; exact hPc, va_K.moved hW.alike hK, hDc.weaken (fun _ _ _ _ => trivial)⟩⟩ rfl rfl hl.1 rfl (lv_room (Nat.le_of_ble_eq_true rfl)) zd_Set_isPlace_66 ⟨Nat.le_of_ble_eq_true rfl, Nat.le_of_ble_eq_true rfl⟩) hS (fun q _ h => hFc q h) hFc (fun r1 _ t H1 locs ht hvm hw hB hz1 hk1 hS => ?_)
    subst hw
    obtain ⟨hP1, hD1⟩ := hB
    rw [ht] at hP1
    obtain ⟨hP, hD⟩ := va_join (wr := [(h_a, .inr (2, [.ref h_a_rows, .int a_size])), (h_a_rows, .inl (cL, 24, .inr (.inl a_rows)))]) (w1 := []) hP hD [] [0, 1] rfl rfl (by decide) (by decide) hk1 hFc hP1 hD1
    generalize H1 = H at hP hS ⊢
    have hP : va_P (dC, dI) zCl [(h_a, .inr (2, [.ref h_a_rows, .int a_size])), (h_a_rows, .inl (cL, 24, .inr (.inl a_rows)))] H := hP.sub [0, 1] rfl
    have hD : va_D A [(h_a, .inr (2, [.ref h_a_rows, .int a_size])), (h_a_rows, .inl (cL, 24, .inr (.inl a_rows)))] := hD.sub [0, 1] (by decide) rfl
    refine lv_aload_n hx hb zd_Set_isPlace_69 rfl (lv_at hl 0 rfl) ?_
    refine va_get (D := (dC, dI)) (ci := 2) (v := .ref h_a_rows) (C := zR_Set) (T := zT_Set) (N := 2) hx hb hts zu_Set hown hK hP 0 rfl rfl 0 (by decide) (hts _ wk103) (fun _ h9 => h9) rfl zd_Set_isPlace_70 ?_
    refine lv_iload hx hb zd_Set_isPlace_73 (lv_at hl 4 rfl) ?_
    by_cases hi : u3 < 0 ∨ 24 ≤ u3.toNatClampNeg
    · rw [if_pos hi] at hm; cases hm
    rw [if_neg hi] at hm
    refine va_lald hx hb hK hP 1 0 rfl rfl hi zd_Set_isPlace_75 ?_
    refine lv_iload_n hx hb zd_Set_isPlace_76 rfl (lv_at hl 2 rfl) ?_
    refine lv_iconst (v := 1) hx hb zd_Set_isPlace_77 (by decide) ?_
    refine lv_iadd hx hb zd_Set_isPlace_78 ?_
    obtain ⟨u5, hu5, hm⟩ := Option.bind_eq_some_iff.mp hm
    have hPc := hP.sub (ws' := []) [] rfl
    have hDc := hD.sub (ws' := []) [] (by decide) rfl
    have hFc := va_free (wc := []) hD hS hA [] rfl
    refine va_calll (va_runS (As := [.long ((a_rows u3.toNatClampNeg)), .int ((x1 + 1))]) (rest := [.long u4]) ⟨hx, hb, hml, hown, hts⟩ (c_Row_beginning l dC dI cL cI H.size ((a_rows u3.toNatClampNeg)) ((x1 + 1)) u5 hu5) (va_cwS 2 hts (zgS wk126 wk36 wk35 wk91) rfl rfl rfl zh_Row_beginning.2 ⟨Nat.le_of_ble_eq_true rfl, Nat.le_of_ble_eq_true rfl⟩) ⟨fun a U g mk q => by obtain ⟨q0, q1, qP, qK, qD⟩ := q; exact ⟨q0, q1, qP, va_K.moved (u := U) (U := U.calling g mk a) (Vm.Alike.refl U.vm) qK, qD⟩, fun U hU hW => ⟨rfl, by rw [hU], by rw [hU]; exact hPc, va_K.moved hW.alike hK, hDc.weaken (fun _ _ _ _ => trivial)⟩⟩ rfl rfl hl.1 rfl (lv_room (Nat.le_of_ble_eq_true rfl)) zd_Set_isPlace_79 ⟨Nat.le_of_ble_eq_true rfl, Nat.le_of_ble_eq_true rfl⟩) hS (fun q _ h => hFc q h) hFc (fun r1 _ t H1 locs ht hvm hw hB hz1 hk1 hS => ?_)
    subst hw
    obtain ⟨hP1, hD1⟩ := hB
    rw [ht] at hP1
    obtain ⟨hP, hD⟩ := va_join (wr := [(h_a, .inr (2, [.ref h_a_rows, .int a_size])), (h_a_rows, .inl (cL, 24, .inr (.inl a_rows)))]) (w1 := []) hP hD [] [0, 1] rfl rfl (by decide) (by decide) hk1 hFc hP1 hD1
    generalize H1 = H at hP hS ⊢
    have hP : va_P (dC, dI) zCl [(h_a, .inr (2, [.ref h_a_rows, .int a_size])), (h_a_rows, .inl (cL, 24, .inr (.inl a_rows)))] H := hP.sub [0, 1] rfl
    have hD : va_D A [(h_a, .inr (2, [.ref h_a_rows, .int a_size])), (h_a_rows, .inl (cL, 24, .inr (.inl a_rows)))] := hD.sub [0, 1] (by decide) rfl
    refine W.lcmp hx hb zd_Set_isPlace_82 ?_
    refine lv_if_eq (tgt := 90) hx hb zd_Set_isPlace_83 (by decide) (fun hc => ?_) (fun hc => ?_)
    · rw [if_pos hc] at hm
      refine lv_iconst (v := 0) hx hb zd_Set_isPlace_90 (by decide) ?_
      obtain rfl := Option.some.inj hm
      exact KR 91 ls _ _ zd_Set_isPlace_91 rfl hP hD hS
    · rw [if_neg hc] at hm
      refine lv_iconst (v := 1) hx hb zd_Set_isPlace_86 (by decide) ?_
      refine lv_goto (tgt := 91) hx hb zd_Set_isPlace_87 (by decide) ?_
      obtain rfl := Option.some.inj hm
      exact KR 91 ls _ _ zd_Set_isPlace_91 rfl hP hD hS
  · rw [if_pos hc] at hm
    refine lv_iconst (v := 1) hx hb zd_Set_isPlace_22 (by decide) ?_
    obtain rfl := Option.some.inj hm
    exact KR 23 ls _ _ zd_Set_isPlace_23 rfl hP hD hS
set_option maxHeartbeats 4000000 in
set_option maxRecDepth 100000 in
theorem c_RowSet_places (l : Launch) (dC : Nat → ClassId) (dI : Nat → Nat → Nat) (cL cI : ClassId) (h_a h_a_rows : Nat) (sz : Nat) (a_rows : Nat → Int64) (a_size : Int32) (u : Int32) (hm : m_RowSet_places a_rows a_size = some u) : Met l zy_Set_places zw_Set_places ({ frames := 3, cells := 0, slots := 0, locals := 71 }) (va_Pc [.ref h_a] (fun U => U.heap.size = sz ∧ va_P (dC, dI) zCl [(h_a, .inr (2, [.ref h_a_rows, .int a_size])), (h_a_rows, .inl (cL, 24, .inr (.inl a_rows)))] U.heap ∧ va_K (dC, dI) zCl [(cL, .long), (cI, .int)] U ∧ va_D (fun _ => True) [(h_a, .inr (2, [.ref h_a_rows, .int a_size])), (h_a_rows, .inl (cL, 24, .inr (.inl a_rows)))])) (va_Qi (fun (r : Int32) (_ : Unit) => u = r) (fun _ t => va_P (dC, dI) zCl [(h_a, .inr (2, [.ref h_a_rows, .int a_size])), (h_a_rows, .inl (cL, 24, .inr (.inl a_rows)))] t.heap ∧ va_D (va_A [(h_a, .inr (2, [.ref h_a_rows, .int a_size])), (h_a_rows, .inl (cL, 24, .inr (.inl a_rows)))] sz) [(h_a, .inr (2, [.ref h_a_rows, .int a_size])), (h_a_rows, .inl (cL, 24, .inr (.inl a_rows)))]) (va_A [(h_a, .inr (2, [.ref h_a_rows, .int a_size])), (h_a_rows, .inl (cL, 24, .inr (.inl a_rows)))] sz)) 0 0 (va_A [(h_a, .inr (2, [.ref h_a_rows, .int a_size])), (h_a_rows, .inl (cL, 24, .inr (.inl a_rows)))] sz) := by
  refine Met.ofW (cc := zc_Set_places) (maxL := 6) (ret := (some .int)) (by decide) rfl ?_
  intro p e s m args below meth c s₁ B hml hv
  obtain ⟨rfl, hsz, hP, hK, hD0⟩ := hv
  have hx := B.exec
  have hb := B.bytes
  have hr := B.returns
  have hts0 := atoms_spec (ws := zw_Set_places) B.pre
  have hts : ∀ w ∈ WSg, w.before _ s = true := fun w h => hts0 w (List.mem_cons_of_mem _ h)
  clear hts0
  have hown : s.vm.findClass zR_Set = some m.cls := findClass_of_methodNamed B.named
  have hlocks := B.notSynchronized
  subst hsz
  have hD := hD0.self (sz := s.heap.size)
  generalize hAe : va_A [(h_a, .inr (2, [.ref h_a_rows, .int a_size])), (h_a_rows, .inl (cL, 24, .inr (.inl a_rows)))] s.heap.size = A at hD ⊢
  have hA : ∀ q : Nat, s.heap.size ≤ q → A q := fun q h => by rw [← hAe]; exact Or.inr h
  have hS : va_S A s.heap s.heap [] := va_S.rf
  have hP : va_P (dC, dI) zCl [(h_a, .inr (2, [.ref h_a_rows, .int a_size])), (h_a_rows, .inl (cL, 24, .inr (.inl a_rows)))] s.heap := hP
  have hl := lv_entry ([.ref h_a]) (n := 6) (Nat.le_of_ble_eq_true rfl)
  rw [lg_entry_eq]
  generalize (lg_sl ([.ref h_a]) ++ List.replicate (6 - (lg_sl ([.ref h_a])).length) Slot.unset).toArray = ls at hl ⊢
  have hl : lv_has ls 6 [(0, .ref h_a)] := hl
  have KR : ∀ (pc : Nat) (ls : Array Slot) (H : Heap) (locs : List Loc), decode zc_Set_places pc = .ok (.ireturn, 1) → va_P (dC, dI) zCl [(h_a, .inr (2, [.ref h_a_rows, .int a_size])), (h_a_rows, .inl (cL, 24, .inr (.inl a_rows)))] H → va_D A [(h_a, .inr (2, [.ref h_a_rows, .int a_size])), (h_a_rows, .inl (cL, 24, .inr (.inl a_rows)))] → va_S A s.heap H locs → W p l e (headSpec zw_Set_places ({ frames := 3, cells := 0, slots := 0, locals := 71 })).room s m ([.ref h_a] : List Value).toArray below meth c H locs 0 0 (MQ below (va_Qi (fun (r : Int32) (_ : Unit) => u = r) (fun _ t => va_P (dC, dI) zCl [(h_a, .inr (2, [.ref h_a_rows, .int a_size])), (h_a_rows, .inl (cL, 24, .inr (.inl a_rows)))] t.heap ∧ va_D A [(h_a, .inr (2, [.ref h_a_rows, .int a_size])), (h_a_rows, .inl (cL, 24, .inr (.inl a_rows)))]) A) ([.ref h_a] : List Value).toArray s 0 0 A) (F0 m pc ls [.int u]) := by
    intro pc ls H locs hd hP9 hD9 hS
    exact W.iret (v := u) hx hb hr (fun t ht hW => ⟨⟨u, (), rfl, rfl, by rw [ht]; exact hP9, hD9⟩, hS.F ht⟩) hS.2.2 hd
  generalize (MQ below (va_Qi (fun (r : Int32) (_ : Unit) => u = r) (fun _ t => va_P (dC, dI) zCl [(h_a, .inr (2, [.ref h_a_rows, .int a_size])), (h_a_rows, .inl (cL, 24, .inr (.inl a_rows)))] t.heap ∧ va_D A [(h_a, .inr (2, [.ref h_a_rows, .int a_size])), (h_a_rows, .inl (cL, 24, .inr (.inl a_rows)))]) A) ([.ref h_a] : List Value).toArray s 0 0 A) = Q at KR ⊢
  have L54 : ∀ (n : Nat) (l1 : Int32) (l2 : Int32) (l3 : Int32) (l4 : Int32) (l5 : Int32) (a_rows : Nat → Int64) (a_size : Int32) (ls : Array Slot) (H : Heap) (locs : List Loc) (uu : (Int32 × Int32)), lv_has ls 6 [(0, .ref h_a), (1, .int l1), (2, .int l2), (3, .int l3), (4, .int l4), (5, .int l5)] → va_P (dC, dI) zCl [(h_a, .inr (2, [.ref h_a_rows, .int a_size])), (h_a_rows, .inl (cL, 24, .inr (.inl a_rows)))] H → va_D A [(h_a, .inr (2, [.ref h_a_rows, .int a_size])), (h_a_rows, .inl (cL, 24, .inr (.inl a_rows)))] → va_S A s.heap H locs → m_RowSet_places_l54 l2 l4 a_rows a_size n l1 l5 = some uu → (∀ (ls : Array Slot) (H : Heap) (locs : List Loc), lv_has ls 6 [(0, .ref h_a), (1, .int uu.1), (2, .int l2), (3, .int l3), (4, .int l4), (5, .int uu.2)] → va_P (dC, dI) zCl [(h_a, .inr (2, [.ref h_a_rows, .int a_size])), (h_a_rows, .inl (cL, 24, .inr (.inl a_rows)))] H → va_D A [(h_a, .inr (2, [.ref h_a_rows, .int a_size])), (h_a_rows, .inl (cL, 24, .inr (.inl a_rows)))] → va_S A s.heap H locs → W p l e (headSpec zw_Set_places ({ frames := 3, cells := 0, slots := 0, locals := 71 })).room s m ([.ref h_a] : List Value).toArray below meth c H locs 0 0 Q (F0 m 80 ls [])) → W p l e (headSpec zw_Set_places ({ frames := 3, cells := 0, slots := 0, locals := 71 })).room s m ([.ref h_a] : List Value).toArray below meth c H locs 0 0 Q (F0 m 54 ls []) := by
    intro n
    induction n with
    | zero =>
      intro l1 l2 l3 l4 l5 a_rows a_size ls H locs uu hl hP hD hS hm K
      rw [m_RowSet_places_l54] at hm
      cases hm
    | succ n ih =>
      intro l1 l2 l3 l4 l5 a_rows a_size ls H locs uu hl hP hD hS hm K
      rw [m_RowSet_places_l54] at hm
      refine lv_iload hx hb zd_Set_places_54 (lv_at hl 5 rfl) ?_
      refine lv_iload hx hb zd_Set_places_56 (lv_at hl 4 rfl) ?_
      refine lv_icmp_gt (tgt := 80) hx hb zd_Set_places_58 (by decide) (fun hc => ?_) (fun hc => ?_)
      · rw [if_pos hc] at hm
        obtain rfl := Option.some.inj hm
        exact K ls H locs (lv_sub hl [0, 1, 2, 3, 4, 5] rfl) hP hD hS
      · rw [if_neg hc] at hm
        refine lv_aload_n hx hb zd_Set_places_61 rfl (lv_at hl 0 rfl) ?_
        refine lv_iload_n hx hb zd_Set_places_62 rfl (lv_at hl 2 rfl) ?_
        refine lv_iload hx hb zd_Set_places_63 (lv_at hl 5 rfl) ?_
        obtain ⟨u3, hu3, hm⟩ := Option.bind_eq_some_iff.mp hm
        have hPc := hP
        have hDc := hD
        have hFc := va_free (wc := [(h_a, .inr (2, [.ref h_a_rows, .int a_size])), (h_a_rows, .inl (cL, 24, .inr (.inl a_rows)))]) hD hS hA [0, 1] rfl
        refine va_calli (va_runV (As := [.int l2, .int l5]) (rest := []) ⟨hx, hb, hml, hown, hts⟩ (c_RowSet_isPlace l dC dI cL cI h_a h_a_rows H.size l2 l5 a_rows a_size u3 hu3) (cwV 2 hts (zgV wk118 wk119 wk120 wk11 wk128) rfl rfl rfl zh_Set_isPlace ⟨Nat.le_of_ble_eq_true rfl, Nat.le_of_ble_eq_true rfl⟩) ⟨fun a U g mk q => by obtain ⟨q0, q1, qP, qK, qD⟩ := q; exact ⟨q0, q1, qP, va_K.moved (u := U) (U := U.calling g mk a) (Vm.Alike.refl U.vm) qK, qD⟩, va_recv hK hP (ci := 2) (q0 := 0) rfl rfl, fun U hU hW => ⟨rfl, by rw [hU], by rw [hU]; exact hPc, va_K.moved hW.alike hK, hDc.weaken (fun _ _ _ _ => trivial)⟩⟩ rfl rfl hl.1 rfl (lv_room (Nat.le_of_ble_eq_true rfl)) zd_Set_places_65 ⟨Nat.le_of_ble_eq_true rfl, Nat.le_of_ble_eq_true rfl⟩) hS (fun q _ h => hFc q h) hFc (fun r1 _ t H1 locs ht hvm hw hB hz1 hk1 hS => ?_)
        subst hw
        obtain ⟨hP1, hD1⟩ := hB
        rw [ht] at hP1
        have hP := hP1
        have hD := hD1.weaken (fun _ q _ h => hFc q.1 h)
        generalize H1 = H at hP hS ⊢
        refine lv_if_eq (tgt := 74) hx hb zd_Set_places_68 (by decide) (fun hc => ?_) (fun hc => ?_)
        · rw [if_pos hc] at hm
          refine lv_iinc (k := 5) (v := (l5 + 1)) (lv' := [(5, .int ((l5 + 1))), (0, .ref h_a), (1, .int l1), (2, .int l2), (3, .int l3), (4, .int l4)]) hx hb zd_Set_places_74 hl rfl rfl (by decide) rfl (fun ls hl => ?_)
          refine lv_goto (tgt := 54) hx hb zd_Set_places_77 (by decide) ?_
          exact ih l1 l2 l3 l4 ((l5 + 1)) a_rows a_size ls H locs uu (lv_sub hl [1, 2, 3, 4, 5, 0] rfl) hP hD hS hm K
        · rw [if_neg hc] at hm
          refine lv_iinc (k := 1) (v := (l1 + 1)) (lv' := [(1, .int ((l1 + 1))), (0, .ref h_a), (2, .int l2), (3, .int l3), (4, .int l4), (5, .int l5)]) hx hb zd_Set_places_71 hl rfl rfl (by decide) rfl (fun ls hl => ?_)
          refine lv_iinc (k := 5) (v := (l5 + 1)) (lv' := [(5, .int ((l5 + 1))), (1, .int ((l1 + 1))), (0, .ref h_a), (2, .int l2), (3, .int l3), (4, .int l4)]) hx hb zd_Set_places_74 hl rfl rfl (by decide) rfl (fun ls hl => ?_)
          refine lv_goto (tgt := 54) hx hb zd_Set_places_77 (by decide) ?_
          exact ih ((l1 + 1)) l2 l3 l4 ((l5 + 1)) a_rows a_size ls H locs uu (lv_sub hl [2, 1, 3, 4, 5, 0] rfl) hP hD hS hm K
  have L4 : ∀ (n : Nat) (l1 : Int32) (l2 : Int32) (a_rows : Nat → Int64) (a_size : Int32) (ls : Array Slot) (H : Heap) (locs : List Loc) (uu : (Int32 × Int32)), lv_has ls 6 [(0, .ref h_a), (1, .int l1), (2, .int l2)] → va_P (dC, dI) zCl [(h_a, .inr (2, [.ref h_a_rows, .int a_size])), (h_a_rows, .inl (cL, 24, .inr (.inl a_rows)))] H → va_D A [(h_a, .inr (2, [.ref h_a_rows, .int a_size])), (h_a_rows, .inl (cL, 24, .inr (.inl a_rows)))] → va_S A s.heap H locs → m_RowSet_places_l4 a_rows a_size n l1 l2 = some uu → (∀ (ls : Array Slot) (H : Heap) (locs : List Loc), lv_has ls 6 [(0, .ref h_a), (1, .int uu.1), (2, .int uu.2)] → va_P (dC, dI) zCl [(h_a, .inr (2, [.ref h_a_rows, .int a_size])), (h_a_rows, .inl (cL, 24, .inr (.inl a_rows)))] H → va_D A [(h_a, .inr (2, [.ref h_a_rows, .int a_size])), (h_a_rows, .inl (cL, 24, .inr (.inl a_rows)))] → va_S A s.heap H locs → W p l e (headSpec zw_Set_places ({ frames := 3, cells := 0, slots := 0, locals := 71 })).room s m ([.ref h_a] : List Value).toArray below meth c H locs 0 0 Q (F0 m 86 ls [])) → W p l e (headSpec zw_Set_places ({ frames := 3, cells := 0, slots := 0, locals := 71 })).room s m ([.ref h_a] : List Value).toArray below meth c H locs 0 0 Q (F0 m 4 ls []) := by
    intro n
    induction n with
    | zero =>
      intro l1 l2 a_rows a_size ls H locs uu hl hP hD hS hm K
      rw [m_RowSet_places_l4] at hm
      cases hm
    | succ n ih =>
      intro l1 l2 a_rows a_size ls H locs uu hl hP hD hS hm K
      rw [m_RowSet_places_l4] at hm
      refine lv_iload_n hx hb zd_Set_places_4 rfl (lv_at hl 2 rfl) ?_
      refine lv_aload_n hx hb zd_Set_places_5 rfl (lv_at hl 0 rfl) ?_
      refine va_get (D := (dC, dI)) (ci := 2) (v := .int a_size) (C := zR_Set) (T := zT_Set) (N := 2) hx hb hts zu_Set hown hK hP 0 rfl rfl 1 (by decide) (hts _ wk104) (fun _ h9 => h9) rfl zd_Set_places_6 ?_
      refine lv_icmp_ge (tgt := 86) hx hb zd_Set_places_9 (by decide) (fun hc => ?_) (fun hc => ?_)
      · rw [if_pos hc] at hm
        obtain rfl := Option.some.inj hm
        exact K ls H locs (lv_sub hl [0, 1, 2] rfl) hP hD hS
      · rw [if_neg hc] at hm
        refine lv_iload_n hx hb zd_Set_places_12 rfl (lv_at hl 2 rfl) ?_
        refine lv_if_ne (tgt := 20) hx hb zd_Set_places_13 (by decide) (fun hc => ?_) (fun hc => ?_)
        · rw [if_neg hc] at hm
          refine lv_aload_n hx hb zd_Set_places_20 rfl (lv_at hl 0 rfl) ?_
          refine va_get (D := (dC, dI)) (ci := 2) (v := .ref h_a_rows) (C := zR_Set) (T := zT_Set) (N := 2) hx hb hts zu_Set hown hK hP 0 rfl rfl 0 (by decide) (hts _ wk103) (fun _ h9 => h9) rfl zd_Set_places_21 ?_
          refine lv_iload_n hx hb zd_Set_places_24 rfl (lv_at hl 2 rfl) ?_
          refine lv_iconst (v := 1) hx hb zd_Set_places_25 (by decide) ?_
          refine lv_isub hx hb zd_Set_places_26 ?_
          by_cases hi : ((l2 - 1) : Int32) < 0 ∨ 24 ≤ ((l2 - 1) : Int32).toNatClampNeg
          · rw [if_pos hi] at hm; cases hm
          rw [if_neg hi] at hm
          refine va_lald hx hb hK hP 1 0 rfl rfl hi zd_Set_places_27 ?_
          refine lv_aload_n hx hb zd_Set_places_28 rfl (lv_at hl 0 rfl) ?_
          refine va_get (D := (dC, dI)) (ci := 2) (v := .ref h_a_rows) (C := zR_Set) (T := zT_Set) (N := 2) hx hb hts zu_Set hown hK hP 0 rfl rfl 0 (by decide) (hts _ wk103) (fun _ h9 => h9) rfl zd_Set_places_29 ?_
          refine lv_iload_n hx hb zd_Set_places_32 rfl (lv_at hl 2 rfl) ?_
          by_cases hi : l2 < 0 ∨ 24 ≤ l2.toNatClampNeg
          · rw [if_pos hi] at hm; cases hm
          rw [if_neg hi] at hm
          refine va_lald hx hb hK hP 1 0 rfl rfl hi zd_Set_places_33 ?_
          obtain ⟨u1, hu1, hm⟩ := Option.bind_eq_some_iff.mp hm
          have hPc := hP.sub (ws' := []) [] rfl
          have hDc := hD.sub (ws' := []) [] (by decide) rfl
          have hFc := va_free (wc := []) hD hS hA [] rfl
          refine va_calli (va_runS (As := [.long ((a_rows ((l2 - 1) : Int32).toNatClampNeg)), .long ((a_rows l2.toNatClampNeg))]) (rest := []) ⟨hx, hb, hml, hown, hts⟩ (c_Row_lengthInCommon l dC dI cL cI H.size ((a_rows ((l2 - 1) : Int32).toNatClampNeg)) ((a_rows l2.toNatClampNeg)) u1 hu1) (va_cwS 2 hts (zgS wk116 wk73 wk35 wk96) rfl rfl rfl zh_Row_lengthInCommon.2 ⟨Nat.le_of_ble_eq_true rfl, Nat.le_of_ble_eq_true rfl⟩) ⟨fun a U g mk q => by obtain ⟨q0, q1, qP, qK, qD⟩ := q; exact ⟨q0, q1, qP, va_K.moved (u := U) (U := U.calling g mk a) (Vm.Alike.refl U.vm) qK, qD⟩, fun U hU hW => ⟨rfl, by rw [hU], by rw [hU]; exact hPc, va_K.moved hW.alike hK, hDc.weaken (fun _ _ _ _ => trivial)⟩⟩ rfl rfl hl.1 rfl (lv_room (Nat.le_of_ble_eq_true rfl)) zd_Set_places_34 ⟨Nat.le_of_ble_eq_true rfl, Nat.le_of_ble_eq_true rfl⟩) hS (fun q _ h => hFc q h) hFc (fun r1 _ t H1 locs ht hvm hw hB hz1 hk1 hS => ?_)
          subst hw
          obtain ⟨hP1, hD1⟩ := hB
          rw [ht] at hP1
          obtain ⟨hP, hD⟩ := va_join (wr := [(h_a, .inr (2, [.ref h_a_rows, .int a_size])), (h_a_rows, .inl (cL, 24, .inr (.inl a_rows)))]) (w1 := []) hP hD [] [0, 1] rfl rfl (by decide) (by decide) hk1 hFc hP1 hD1
          generalize H1 = H at hP hS ⊢
          have hP : va_P (dC, dI) zCl [(h_a, .inr (2, [.ref h_a_rows, .int a_size])), (h_a_rows, .inl (cL, 24, .inr (.inl a_rows)))] H := hP.sub [0, 1] rfl
          have hD : va_D A [(h_a, .inr (2, [.ref h_a_rows, .int a_size])), (h_a_rows, .inl (cL, 24, .inr (.inl a_rows)))] := hD.sub [0, 1] (by decide) rfl
          refine lv_istore_n (lv' := [(3, .int u1), (0, .ref h_a), (1, .int l1), (2, .int l2)]) hx hb zd_Set_places_37 rfl hl (by decide) rfl (fun ls hl => ?_)
          refine lv_aload_n hx hb zd_Set_places_38 rfl (lv_at hl 1 rfl) ?_
          refine va_get (D := (dC, dI)) (ci := 2) (v := .ref h_a_rows) (C := zR_Set) (T := zT_Set) (N := 2) hx hb hts zu_Set hown hK hP 0 rfl rfl 0 (by decide) (hts _ wk103) (fun _ h9 => h9) rfl zd_Set_places_39 ?_
          refine lv_iload_n hx hb zd_Set_places_42 rfl (lv_at hl 3 rfl) ?_
          by_cases hi : l2 < 0 ∨ 24 ≤ l2.toNatClampNeg
          · rw [if_pos hi] at hm; cases hm
          rw [if_neg hi] at hm
          refine va_lald hx hb hK hP 1 0 rfl rfl hi zd_Set_places_43 ?_
          obtain ⟨u2, hu2, hm⟩ := Option.bind_eq_some_iff.mp hm
          have hPc := hP.sub (ws' := []) [] rfl
          have hDc := hD.sub (ws' := []) [] (by decide) rfl
          have hFc := va_free (wc := []) hD hS hA [] rfl
          refine va_calli (va_runS (As := [.long ((a_rows l2.toNatClampNeg))]) (rest := []) ⟨hx, hb, hml, hown, hts⟩ (c_Row_lengthOf l dC dI cL cI H.size ((a_rows l2.toNatClampNeg)) u2 hu2) (va_cwS 1 hts (zgS wk117 wk99 wk35 wk93) rfl rfl rfl zh_Row_lengthOf.2 ⟨Nat.le_of_ble_eq_true rfl, Nat.le_of_ble_eq_true rfl⟩) ⟨fun a U g mk q => by obtain ⟨q0, q1, qP, qK, qD⟩ := q; exact ⟨q0, q1, qP, va_K.moved (u := U) (U := U.calling g mk a) (Vm.Alike.refl U.vm) qK, qD⟩, fun U hU hW => ⟨rfl, by rw [hU], by rw [hU]; exact hPc, va_K.moved hW.alike hK, hDc.weaken (fun _ _ _ _ => trivial)⟩⟩ rfl rfl hl.1 rfl (lv_room (Nat.le_of_ble_eq_true rfl)) zd_Set_places_44 ⟨Nat.le_of_ble_eq_true rfl, Nat.le_of_ble_eq_true rfl⟩) hS (fun q _ h => hFc q h) hFc (fun r1 _ t H1 locs ht hvm hw hB hz1 hk1 hS => ?_)
          subst hw
          obtain ⟨hP1, hD1⟩ := hB
          rw [ht] at hP1
          obtain ⟨hP, hD⟩ := va_join (wr := [(h_a, .inr (2, [.ref h_a_rows, .int a_size])), (h_a_rows, .inl (cL, 24, .inr (.inl a_rows)))]) (w1 := []) hP hD [] [0, 1] rfl rfl (by decide) (by decide) hk1 hFc hP1 hD1
          generalize H1 = H at hP hS ⊢
          have hP : va_P (dC, dI) zCl [(h_a, .inr (2, [.ref h_a_rows, .int a_size])), (h_a_rows, .inl (cL, 24, .inr (.inl a_rows)))] H := hP.sub [0, 1] rfl
          have hD : va_D A [(h_a, .inr (2, [.ref h_a_rows, .int a_size])), (h_a_rows, .inl (cL, 24, .inr (.inl a_rows)))] := hD.sub [0, 1] (by decide) rfl
          refine lv_istore (lv' := [(4, .int u2), (3, .int u1), (0, .ref h_a), (1, .int l1), (2, .int l2)]) hx hb zd_Set_places_47 hl (by decide) rfl (fun ls hl => ?_)
          refine lv_iload_n hx hb zd_Set_places_49 rfl (lv_at hl 1 rfl) ?_
          refine lv_iconst (v := 1) hx hb zd_Set_places_50 (by decide) ?_
          refine lv_iadd hx hb zd_Set_places_51 ?_
          refine lv_istore (lv' := [(5, .int ((u1 + 1))), (4, .int u2), (3, .int u1), (0, .ref h_a), (1, .int l1), (2, .int l2)]) hx hb zd_Set_places_52 hl (by decide) rfl (fun ls hl => ?_)
          obtain ⟨u4, hu4, hm⟩ := Option.bind_eq_some_iff.mp hm
          refine L54 100 l1 l2 u1 u2 ((u1 + 1)) a_rows a_size ls _ _ u4 (lv_sub hl [3, 4, 5, 2, 1, 0] rfl) hP hD hS hu4 (fun ls H locs hl hP hD hS => ?_)
          refine lv_iinc (k := 2) (v := (l2 + 1)) (lv' := [(2, .int ((l2 + 1))), (0, .ref h_a), (1, .int u4.1), (3, .int u1), (4, .int u2), (5, .int u4.2)]) hx hb zd_Set_places_80 hl rfl rfl (by decide) rfl (fun ls hl => ?_)
          refine lv_goto (tgt := 4) hx hb zd_Set_places_83 (by decide) ?_
          exact ih u4.1 ((l2 + 1)) a_rows a_size ls H locs uu (lv_sub hl [1, 2, 0] rfl) hP hD hS hm K
        · rw [if_pos hc] at hm
          refine lv_iconst (v := 0) hx hb zd_Set_places_16 (by decide) ?_
          refine lv_goto (tgt := 37) hx hb zd_Set_places_17 (by decide) ?_
          refine lv_istore_n (lv' := [(3, .int 0), (0, .ref h_a), (1, .int l1), (2, .int l2)]) hx hb zd_Set_places_37 rfl hl (by decide) rfl (fun ls hl => ?_)
          refine lv_aload_n hx hb zd_Set_places_38 rfl (lv_at hl 1 rfl) ?_
          refine va_get (D := (dC, dI)) (ci := 2) (v := .ref h_a_rows) (C := zR_Set) (T := zT_Set) (N := 2) hx hb hts zu_Set hown hK hP 0 rfl rfl 0 (by decide) (hts _ wk103) (fun _ h9 => h9) rfl zd_Set_places_39 ?_
          refine lv_iload_n hx hb zd_Set_places_42 rfl (lv_at hl 3 rfl) ?_
          by_cases hi : l2 < 0 ∨ 24 ≤ l2.toNatClampNeg
          · rw [if_pos hi] at hm; cases hm
          rw [if_neg hi] at hm
          refine va_lald hx hb hK hP 1 0 rfl rfl hi zd_Set_places_43 ?_
          obtain ⟨u5, hu5, hm⟩ := Option.bind_eq_some_iff.mp hm
          have hPc := hP.sub (ws' := []) [] rfl
          have hDc := hD.sub (ws' := []) [] (by decide) rfl
          have hFc := va_free (wc := []) hD hS hA [] rfl
          refine va_calli (va_runS (As := [.long ((a_rows l2.toNatClampNeg))]) (rest := []) ⟨hx, hb, hml, hown, hts⟩ (c_Row_lengthOf l dC dI cL cI H.size ((a_rows l2.toNatClampNeg)) u5 hu5) (va_cwS 1 hts (zgS wk117 wk99 wk35 wk93) rfl rfl rfl zh_Row_lengthOf.2 ⟨Nat.le_of_ble_eq_true rfl, Nat.le_of_ble_eq_true rfl⟩) ⟨fun a U g mk q => by obtain ⟨q0, q1, qP, qK, qD⟩ := q; exact ⟨q0, q1, qP, va_K.moved (u := U) (U := U.calling g mk a) (Vm.Alike.refl U.vm) qK, qD⟩, fun U hU hW => ⟨rfl, by rw [hU], by rw [hU]; exact hPc, va_K.moved hW.alike hK, hDc.weaken (fun _ _ _ _ => trivial)⟩⟩ rfl rfl hl.1 rfl (lv_room (Nat.le_of_ble_eq_true rfl)) zd_Set_places_44 ⟨Nat.le_of_ble_eq_true rfl, Nat.le_of_ble_eq_true rfl⟩) hS (fun q _ h => hFc q h) hFc (fun r1 _ t H1 locs ht hvm hw hB hz1 hk1 hS => ?_)
          subst hw
          obtain ⟨hP1, hD1⟩ := hB
          rw [ht] at hP1
          obtain ⟨hP, hD⟩ := va_join (wr := [(h_a, .inr (2, [.ref h_a_rows, .int a_size])), (h_a_rows, .inl (cL, 24, .inr (.inl a_rows)))]) (w1 := []) hP hD [] [0, 1] rfl rfl (by decide) (by decide) hk1 hFc hP1 hD1
          generalize H1 = H at hP hS ⊢
          have hP : va_P (dC, dI) zCl [(h_a, .inr (2, [.ref h_a_rows, .int a_size])), (h_a_rows, .inl (cL, 24, .inr (.inl a_rows)))] H := hP.sub [0, 1] rfl
          have hD : va_D A [(h_a, .inr (2, [.ref h_a_rows, .int a_size])), (h_a_rows, .inl (cL, 24, .inr (.inl a_rows)))] := hD.sub [0, 1] (by decide) rfl
          refine lv_istore (lv' := [(4, .int u5), (3, .int 0), (0, .ref h_a), (1, .int l1), (2, .int l2)]) hx hb zd_Set_places_47 hl (by decide) rfl (fun ls hl => ?_)
          refine lv_iload_n hx hb zd_Set_places_49 rfl (lv_at hl 1 rfl) ?_
          refine lv_iconst (v := 1) hx hb zd_Set_places_50 (by decide) ?_
          refine lv_iadd hx hb zd_Set_places_51 ?_
          refine lv_istore (lv' := [(5, .int ((0 + 1))), (4, .int u5), (3, .int 0), (0, .ref h_a), (1, .int l1), (2, .int l2)]) hx hb zd_Set_places_52 hl (by decide) rfl (fun ls hl => ?_)
          obtain ⟨u6, hu6, hm⟩ := Option.bind_eq_some_iff.mp hm
          refine L54 100 l1 l2 0 u5 ((0 + 1)) a_rows a_size ls _ _ u6 (lv_sub hl [3, 4, 5, 2, 1, 0] rfl) hP hD hS hu6 (fun ls H locs hl hP hD hS => ?_)
          refine lv_iinc (k := 2) (v := (l2 + 1)) (lv' := [(2, .int ((l2 + 1))), (0, .ref h_a), (1, .int u6.1), (3, .int 0), (4, .int u5), (5, .int u6.2)]) hx hb zd_Set_places_80 hl rfl rfl (by decide) rfl (fun ls hl => ?_)
          refine lv_goto (tgt := 4) hx hb zd_Set_places_83 (by decide) ?_
          exact ih u6.1 ((l2 + 1)) a_rows a_size ls H locs uu (lv_sub hl [1, 2, 0] rfl) hP hD hS hm K
  unfold m_RowSet_places at hm
  refine lv_iconst (v := 1) hx hb zd_Set_places_0 (by decide) ?_
  refine lv_istore_n (lv' := [(1, .int 1), (0, .ref h_a)]) hx hb zd_Set_places_1 rfl hl (by decide) rfl (fun ls hl => ?_)
  refine lv_iconst (v := 0) hx hb zd_Set_places_2 (by decide) ?_
  refine lv_istore_n (lv' := [(2, .int 0), (1, .int 1), (0, .ref h_a)]) hx hb zd_Set_places_3 rfl hl (by decide) rfl (fun ls hl => ?_)
  obtain ⟨u7, hu7, hm⟩ := Option.bind_eq_some_iff.mp hm
  refine L4 100 1 0 a_rows a_size ls _ _ u7 (lv_sub hl [2, 1, 0] rfl) hP hD hS hu7 (fun ls H locs hl hP hD hS => ?_)
  refine lv_iload_n hx hb zd_Set_places_86 rfl (lv_at hl 1 rfl) ?_
  obtain rfl := Option.some.inj hm
  exact KR 87 ls _ _ zd_Set_places_87 hP hD hS
set_option maxHeartbeats 4000000 in
set_option maxRecDepth 100000 in
theorem c_RowSet_isPlaceAlong (l : Launch) (dC : Nat → ClassId) (dI : Nat → Nat → Nat) (cL cI : ClassId) (h_a h_a_rows : Nat) (sz : Nat) (x0 : Int64) (x1 : Int32) (a_rows : Nat → Int64) (a_size : Int32) (u : Int32) (hm : m_RowSet_isPlaceAlong x0 x1 a_rows a_size = some u) : Met l zy_Set_isPlaceAlong zw_Set_isPlaceAlong ({ frames := 3, cells := 0, slots := 0, locals := 71 }) (va_Pc [.ref h_a, .long x0, .int x1] (fun U => U.heap.size = sz ∧ va_P (dC, dI) zCl [(h_a, .inr (2, [.ref h_a_rows, .int a_size])), (h_a_rows, .inl (cL, 24, .inr (.inl a_rows)))] U.heap ∧ va_K (dC, dI) zCl [(cL, .long), (cI, .int)] U ∧ va_D (fun _ => True) [(h_a, .inr (2, [.ref h_a_rows, .int a_size])), (h_a_rows, .inl (cL, 24, .inr (.inl a_rows)))])) (va_Qi (fun (r : Int32) (_ : Unit) => u = r) (fun _ t => va_P (dC, dI) zCl [(h_a, .inr (2, [.ref h_a_rows, .int a_size])), (h_a_rows, .inl (cL, 24, .inr (.inl a_rows)))] t.heap ∧ va_D (va_A [(h_a, .inr (2, [.ref h_a_rows, .int a_size])), (h_a_rows, .inl (cL, 24, .inr (.inl a_rows)))] sz) [(h_a, .inr (2, [.ref h_a_rows, .int a_size])), (h_a_rows, .inl (cL, 24, .inr (.inl a_rows)))]) (va_A [(h_a, .inr (2, [.ref h_a_rows, .int a_size])), (h_a_rows, .inl (cL, 24, .inr (.inl a_rows)))] sz)) 0 0 (va_A [(h_a, .inr (2, [.ref h_a_rows, .int a_size])), (h_a_rows, .inl (cL, 24, .inr (.inl a_rows)))] sz) := by
  refine Met.ofW (cc := zc_Set_isPlaceAlong) (maxL := 7) (ret := (some .boolean)) (by decide) rfl ?_
  intro p e s m args below meth c s₁ B hml hv
  obtain ⟨rfl, hsz, hP, hK, hD0⟩ := hv
  have hx := B.exec
  have hb := B.bytes
  have hr := B.returns
  have hts0 := atoms_spec (ws := zw_Set_isPlaceAlong) B.pre
  have hts : ∀ w ∈ WSg, w.before _ s = true := fun w h => hts0 w (List.mem_cons_of_mem _ h)
  clear hts0
  have hown : s.vm.findClass zR_Set = some m.cls := findClass_of_methodNamed B.named
  have hlocks := B.notSynchronized
  subst hsz
  have hD := hD0.self (sz := s.heap.size)
  generalize hAe : va_A [(h_a, .inr (2, [.ref h_a_rows, .int a_size])), (h_a_rows, .inl (cL, 24, .inr (.inl a_rows)))] s.heap.size = A at hD ⊢
  have hA : ∀ q : Nat, s.heap.size ≤ q → A q := fun q h => by rw [← hAe]; exact Or.inr h
  have hS : va_S A s.heap s.heap [] := va_S.rf
  have hP : va_P (dC, dI) zCl [(h_a, .inr (2, [.ref h_a_rows, .int a_size])), (h_a_rows, .inl (cL, 24, .inr (.inl a_rows)))] s.heap := hP
  have hl := lv_entry ([.ref h_a, .long x0, .int x1]) (n := 7) (Nat.le_of_ble_eq_true rfl)
  rw [lg_entry_eq]
  generalize (lg_sl ([.ref h_a, .long x0, .int x1]) ++ List.replicate (7 - (lg_sl ([.ref h_a, .long x0, .int x1])).length) Slot.unset).toArray = ls at hl ⊢
  have hl : lv_has ls 7 [(0, .ref h_a), (1, .long x0), (3, .int x1)] := hl
  have KR : ∀ (pc : Nat) (ls : Array Slot) (H : Heap) (locs : List Loc), decode zc_Set_isPlaceAlong pc = .ok (.ireturn, 1) → narrow .boolean (.int u) = .int u → va_P (dC, dI) zCl [(h_a, .inr (2, [.ref h_a_rows, .int a_size])), (h_a_rows, .inl (cL, 24, .inr (.inl a_rows)))] H → va_D A [(h_a, .inr (2, [.ref h_a_rows, .int a_size])), (h_a_rows, .inl (cL, 24, .inr (.inl a_rows)))] → va_S A s.heap H locs → W p l e (headSpec zw_Set_isPlaceAlong ({ frames := 3, cells := 0, slots := 0, locals := 71 })).room s m ([.ref h_a, .long x0, .int x1] : List Value).toArray below meth c H locs 0 0 (MQ below (va_Qi (fun (r : Int32) (_ : Unit) => u = r) (fun _ t => va_P (dC, dI) zCl [(h_a, .inr (2, [.ref h_a_rows, .int a_size])), (h_a_rows, .inl (cL, 24, .inr (.inl a_rows)))] t.heap ∧ va_D A [(h_a, .inr (2, [.ref h_a_rows, .int a_size])), (h_a_rows, .inl (cL, 24, .inr (.inl a_rows)))]) A) ([.ref h_a, .long x0, .int x1] : List Value).toArray s 0 0 A) (F0 m pc ls [.int u]) := by
    intro pc ls H locs hd hz hP9 hD9 hS
    exact W.zret (v := u) (ty := .boolean) hx hb hr hz (fun t ht hW => ⟨⟨u, (), rfl, rfl, by rw [ht]; exact hP9, hD9⟩, hS.F ht⟩) hS.2.2 hd
  generalize (MQ below (va_Qi (fun (r : Int32) (_ : Unit) => u = r) (fun _ t => va_P (dC, dI) zCl [(h_a, .inr (2, [.ref h_a_rows, .int a_size])), (h_a_rows, .inl (cL, 24, .inr (.inl a_rows)))] t.heap ∧ va_D A [(h_a, .inr (2, [.ref h_a_rows, .int a_size])), (h_a_rows, .inl (cL, 24, .inr (.inl a_rows)))]) A) ([.ref h_a, .long x0, .int x1] : List Value).toArray s 0 0 A) = Q at KR ⊢
  unfold m_RowSet_isPlaceAlong at hm
  refine lv_iload_n hx hb zd_Set_isPlaceAlong_0 rfl (lv_at hl 2 rfl) ?_
  refine lv_if_ne (tgt := 6) hx hb zd_Set_isPlaceAlong_1 (by decide) (fun hc => ?_) (fun hc => ?_)
  · rw [if_neg hc] at hm
    refine lv_lload_n hx hb zd_Set_isPlaceAlong_6 rfl (lv_at hl 1 rfl) ?_
    refine lv_iload_n hx hb zd_Set_isPlaceAlong_7 rfl (lv_at hl 2 rfl) ?_
    obtain ⟨u1, hu1, hm⟩ := Option.bind_eq_some_iff.mp hm
    have hPc := hP.sub (ws' := []) [] rfl
    have hDc := hD.sub (ws' := []) [] (by decide) rfl
    have hFc := va_free (wc := []) hD hS hA [] rfl
    refine va_calll (va_runS (As := [.long x0, .int x1]) (rest := []) ⟨hx, hb, hml, hown, hts⟩ (c_Row_beginning l dC dI cL cI s.heap.size x0 x1 u1 hu1) (va_cwS 2 hts (zgS wk126 wk36 wk35 wk91) rfl rfl rfl zh_Row_beginning.2 ⟨Nat.le_of_ble_eq_true rfl, Nat.le_of_ble_eq_true rfl⟩) ⟨fun a U g mk q => by obtain ⟨q0, q1, qP, qK, qD⟩ := q; exact ⟨q0, q1, qP, va_K.moved (u := U) (U := U.calling g mk a) (Vm.Alike.refl U.vm) qK, qD⟩, fun U hU hW => ⟨rfl, by rw [hU], by rw [hU]; exact hPc, va_K.moved hW.alike hK, hDc.weaken (fun _ _ _ _ => trivial)⟩⟩ rfl rfl hl.1 rfl (lv_room (Nat.le_of_ble_eq_true rfl)) zd_Set_isPlaceAlong_8 ⟨Nat.le_of_ble_eq_true rfl, Nat.le_of_ble_eq_true rfl⟩) hS (fun q _ h => hFc q h) hFc (fun r1 _ t H1 locs ht hvm hw hB hz1 hk1 hS => ?_)
    subst hw
    obtain ⟨hP1, hD1⟩ := hB
    rw [ht] at hP1
    obtain ⟨hP, hD⟩ := va_join (wr := [(h_a, .inr (2, [.ref h_a_rows, .int a_size])), (h_a_rows, .inl (cL, 24, .inr (.inl a_rows)))]) (w1 := []) hP hD [] [0, 1] rfl rfl (by decide) (by decide) hk1 hFc hP1 hD1
    generalize H1 = H at hP hS ⊢
    have hP : va_P (dC, dI) zCl [(h_a, .inr (2, [.ref h_a_rows, .int a_size])), (h_a_rows, .inl (cL, 24, .inr (.inl a_rows)))] H := hP.sub [0, 1] rfl
    have hD : va_D A [(h_a, .inr (2, [.ref h_a_rows, .int a_size])), (h_a_rows, .inl (cL, 24, .inr (.inl a_rows)))] := hD.sub [0, 1] (by decide) rfl
    refine lv_lstore (lv' := [(4, .long u1), (0, .ref h_a), (1, .long x0), (3, .int x1)]) hx hb zd_Set_isPlaceAlong_11 hl (by decide) rfl (fun ls hl => ?_)
    refine lv_aload_n hx hb zd_Set_isPlaceAlong_13 rfl (lv_at hl 1 rfl) ?_
    refine lv_lload hx hb zd_Set_isPlaceAlong_14 (lv_at hl 0 rfl) ?_
    obtain ⟨u2, hu2, hm⟩ := Option.bind_eq_some_iff.mp hm
    have hPc := hP
    have hDc := hD
    have hFc := va_free (wc := [(h_a, .inr (2, [.ref h_a_rows, .int a_size])), (h_a_rows, .inl (cL, 24, .inr (.inl a_rows)))]) hD hS hA [0, 1] rfl
    refine va_calli (va_runV (As := [.long u1]) (rest := []) ⟨hx, hb, hml, hown, hts⟩ (c_RowSet_rowsBefore l dC dI cL cI h_a h_a_rows H.size u1 a_rows a_size u2 hu2) (cwV 1 hts (zgV wk108 wk46 wk47 wk11 wk110) rfl rfl rfl zh_Set_rowsBefore ⟨Nat.le_of_ble_eq_true rfl, Nat.le_of_ble_eq_true rfl⟩) ⟨fun a U g mk q => by obtain ⟨q0, q1, qP, qK, qD⟩ := q; exact ⟨q0, q1, qP, va_K.moved (u := U) (U := U.calling g mk a) (Vm.Alike.refl U.vm) qK, qD⟩, va_recv hK hP (ci := 2) (q0 := 0) rfl rfl, fun U hU hW => ⟨rfl, by rw [hU], by rw [hU]; exact hPc, va_K.moved hW.alike hK, hDc.weaken (fun _ _ _ _ => trivial)⟩⟩ rfl rfl hl.1 rfl (lv_room (Nat.le_of_ble_eq_true rfl)) zd_Set_isPlaceAlong_16 ⟨Nat.le_of_ble_eq_true rfl, Nat.le_of_ble_eq_true rfl⟩) hS (fun q _ h => hFc q h) hFc (fun r1 _ t H1 locs ht hvm hw hB hz1 hk1 hS => ?_)
    subst hw
    obtain ⟨hP1, hD1⟩ := hB
    rw [ht] at hP1
    have hP := hP1
    have hD := hD1.weaken (fun _ q _ h => hFc q.1 h)
    generalize H1 = H at hP hS ⊢
    refine lv_istore (lv' := [(6, .int u2), (4, .long u1), (0, .ref h_a), (1, .long x0), (3, .int x1)]) hx hb zd_Set_isPlaceAlong_19 hl (by decide) rfl (fun ls hl => ?_)
    refine lv_iload hx hb zd_Set_isPlaceAlong_21 (lv_at hl 0 rfl) ?_
    refine lv_aload_n hx hb zd_Set_isPlaceAlong_23 rfl (lv_at hl 2 rfl) ?_
    refine va_get (D := (dC, dI)) (ci := 2) (v := .int a_size) (C := zR_Set) (T := zT_Set) (N := 2) hx hb hts zu_Set hown hK hP 0 rfl rfl 1 (by decide) (hts _ wk104) (fun _ h9 => h9) rfl zd_Set_isPlaceAlong_24 ?_
    refine lv_icmp_ge (tgt := 56) hx hb zd_Set_isPlaceAlong_27 (by decide) (fun hc => ?_) (fun hc => ?_)
    · rw [if_pos hc] at hm
      refine lv_iconst (v := 0) hx hb zd_Set_isPlaceAlong_56 (by decide) ?_
      obtain rfl := Option.some.inj hm
      exact KR 57 ls _ _ zd_Set_isPlaceAlong_57 rfl hP hD hS
    · rw [if_neg hc] at hm
      refine lv_aload_n hx hb zd_Set_isPlaceAlong_30 rfl (lv_at hl 2 rfl) ?_
      refine lv_iload hx hb zd_Set_isPlaceAlong_31 (lv_at hl 0 rfl) ?_
      refine lv_lload hx hb zd_Set_isPlaceAlong_33 (lv_at hl 1 rfl) ?_
      refine lv_iload_n hx hb zd_Set_isPlaceAlong_35 rfl (lv_at hl 4 rfl) ?_
      obtain ⟨u3, hu3, hm⟩ := Option.bind_eq_some_iff.mp hm
      have hPc := hP
      have hDc := hD
      have hFc := va_free (wc := [(h_a, .inr (2, [.ref h_a_rows, .int a_size])), (h_a_rows, .inl (cL, 24, .inr (.inl a_rows)))]) hD hS hA [0, 1] rfl
      refine va_calli (va_runV (As := [.int u2, .long u1, .int x1]) (rest := []) ⟨hx, hb, hml, hown, hts⟩ (c_RowSet_hasBeginning l dC dI cL cI h_a h_a_rows H.size u2 u1 x1 a_rows a_size u3 hu3) (cwV 3 hts (zgV wk112 wk113 wk114 wk11 wk127) rfl rfl rfl zh_Set_hasBeginning ⟨Nat.le_of_ble_eq_true rfl, Nat.le_of_ble_eq_true rfl⟩) ⟨fun a U g mk q => by obtain ⟨q0, q1, qP, qK, qD⟩ := q; exact ⟨q0, q1, qP, va_K.moved (u := U) (U := U.calling g mk a) (Vm.Alike.refl U.vm) qK, qD⟩, va_recv hK hP (ci := 2) (q0 := 0) rfl rfl, fun U hU hW => ⟨rfl, by rw [hU], by rw [hU]; exact hPc, va_K.moved hW.alike hK, hDc.weaken (fun _ _ _ _ => trivial)⟩⟩ rfl rfl hl.1 rfl (lv_room (Nat.le_of_ble_eq_true rfl)) zd_Set_isPlaceAlong_36 ⟨Nat.le_of_ble_eq_true rfl, Nat.le_of_ble_eq_true rfl⟩) hS (fun q _ h => hFc q h) hFc (fun r1 _ t H1 locs ht hvm hw hB hz1 hk1 hS => ?_)
      subst hw
      obtain ⟨hP1, hD1⟩ := hB
      rw [ht] at hP1
      have hP := hP1
      have hD := hD1.weaken (fun _ q _ h => hFc q.1 h)
      generalize H1 = H at hP hS ⊢
      refine lv_if_eq (tgt := 56) hx hb zd_Set_isPlaceAlong_39 (by decide) (fun hc => ?_) (fun hc => ?_)
      · rw [if_pos hc] at hm
        refine lv_iconst (v := 0) hx hb zd_Set_isPlaceAlong_56 (by decide) ?_
        obtain rfl := Option.some.inj hm
        exact KR 57 ls _ _ zd_Set_isPlaceAlong_57 rfl hP hD hS
      · rw [if_neg hc] at hm
        refine lv_aload_n hx hb zd_Set_isPlaceAlong_42 rfl (lv_at hl 2 rfl) ?_
        refine lv_iload hx hb zd_Set_isPlaceAlong_43 (lv_at hl 0 rfl) ?_
        refine lv_iload_n hx hb zd_Set_isPlaceAlong_45 rfl (lv_at hl 4 rfl) ?_
        obtain ⟨u4, hu4, hm⟩ := Option.bind_eq_some_iff.mp hm
        have hPc := hP
        have hDc := hD
        have hFc := va_free (wc := [(h_a, .inr (2, [.ref h_a_rows, .int a_size])), (h_a_rows, .inl (cL, 24, .inr (.inl a_rows)))]) hD hS hA [0, 1] rfl
        refine va_calli (va_runV (As := [.int u2, .int x1]) (rest := []) ⟨hx, hb, hml, hown, hts⟩ (c_RowSet_isPlace l dC dI cL cI h_a h_a_rows H.size u2 x1 a_rows a_size u4 hu4) (cwV 2 hts (zgV wk118 wk119 wk120 wk11 wk128) rfl rfl rfl zh_Set_isPlace ⟨Nat.le_of_ble_eq_true rfl, Nat.le_of_ble_eq_true rfl⟩) ⟨fun a U g mk q => by obtain ⟨q0, q1, qP, qK, qD⟩ := q; exact ⟨q0, q1, qP, va_K.moved (u := U) (U := U.calling g mk a) (Vm.Alike.refl U.vm) qK, qD⟩, va_recv hK hP (ci := 2) (q0 := 0) rfl rfl, fun U hU hW => ⟨rfl, by rw [hU], by rw [hU]; exact hPc, va_K.moved hW.alike hK, hDc.weaken (fun _ _ _ _ => trivial)⟩⟩ rfl rfl hl.1 rfl (lv_room (Nat.le_of_ble_eq_true rfl)) zd_Set_isPlaceAlong_46 ⟨Nat.le_of_ble_eq_true rfl, Nat.le_of_ble_eq_true rfl⟩) hS (fun q _ h => hFc q h) hFc (fun r1 _ t H1 locs ht hvm hw hB hz1 hk1 hS => ?_)
        subst hw
        obtain ⟨hP1, hD1⟩ := hB
        rw [ht] at hP1
        have hP := hP1
        have hD := hD1.weaken (fun _ q _ h => hFc q.1 h)
        generalize H1 = H at hP hS ⊢
        refine lv_if_eq (tgt := 56) hx hb zd_Set_isPlaceAlong_49 (by decide) (fun hc => ?_) (fun hc => ?_)
        · rw [if_pos hc] at hm
          refine lv_iconst (v := 0) hx hb zd_Set_isPlaceAlong_56 (by decide) ?_
          obtain rfl := Option.some.inj hm
          exact KR 57 ls _ _ zd_Set_isPlaceAlong_57 rfl hP hD hS
        · rw [if_neg hc] at hm
          refine lv_iconst (v := 1) hx hb zd_Set_isPlaceAlong_52 (by decide) ?_
          refine lv_goto (tgt := 57) hx hb zd_Set_isPlaceAlong_53 (by decide) ?_
          obtain rfl := Option.some.inj hm
          exact KR 57 ls _ _ zd_Set_isPlaceAlong_57 rfl hP hD hS
  · rw [if_pos hc] at hm
    refine lv_iconst (v := 1) hx hb zd_Set_isPlaceAlong_4 (by decide) ?_
    obtain rfl := Option.some.inj hm
    exact KR 5 ls _ _ zd_Set_isPlaceAlong_5 rfl hP hD hS
set_option maxHeartbeats 4000000 in
set_option maxRecDepth 100000 in
theorem c_RowSet_placesAlong (l : Launch) (dC : Nat → ClassId) (dI : Nat → Nat → Nat) (cL cI : ClassId) (h_a h_a_rows : Nat) (sz : Nat) (x0 : Int64) (x1 : Int32) (a_rows : Nat → Int64) (a_size : Int32) (u : Int32) (hm : m_RowSet_placesAlong x0 x1 a_rows a_size = some u) : Met l zy_Set_placesAlong zw_Set_placesAlong ({ frames := 4, cells := 0, slots := 0, locals := 97 }) (va_Pc [.ref h_a, .long x0, .int x1] (fun U => U.heap.size = sz ∧ va_P (dC, dI) zCl [(h_a, .inr (2, [.ref h_a_rows, .int a_size])), (h_a_rows, .inl (cL, 24, .inr (.inl a_rows)))] U.heap ∧ va_K (dC, dI) zCl [(cL, .long), (cI, .int)] U ∧ va_D (fun _ => True) [(h_a, .inr (2, [.ref h_a_rows, .int a_size])), (h_a_rows, .inl (cL, 24, .inr (.inl a_rows)))])) (va_Qi (fun (r : Int32) (_ : Unit) => u = r) (fun _ t => va_P (dC, dI) zCl [(h_a, .inr (2, [.ref h_a_rows, .int a_size])), (h_a_rows, .inl (cL, 24, .inr (.inl a_rows)))] t.heap ∧ va_D (va_A [(h_a, .inr (2, [.ref h_a_rows, .int a_size])), (h_a_rows, .inl (cL, 24, .inr (.inl a_rows)))] sz) [(h_a, .inr (2, [.ref h_a_rows, .int a_size])), (h_a_rows, .inl (cL, 24, .inr (.inl a_rows)))]) (va_A [(h_a, .inr (2, [.ref h_a_rows, .int a_size])), (h_a_rows, .inl (cL, 24, .inr (.inl a_rows)))] sz)) 0 0 (va_A [(h_a, .inr (2, [.ref h_a_rows, .int a_size])), (h_a_rows, .inl (cL, 24, .inr (.inl a_rows)))] sz) := by
  refine Met.ofW (cc := zc_Set_placesAlong) (maxL := 7) (ret := (some .int)) (by decide) rfl ?_
  intro p e s m args below meth c s₁ B hml hv
  obtain ⟨rfl, hsz, hP, hK, hD0⟩ := hv
  have hx := B.exec
  have hb := B.bytes
  have hr := B.returns
  have hts0 := atoms_spec (ws := zw_Set_placesAlong) B.pre
  have hts : ∀ w ∈ WSg, w.before _ s = true := fun w h => hts0 w (List.mem_cons_of_mem _ h)
  clear hts0
  have hown : s.vm.findClass zR_Set = some m.cls := findClass_of_methodNamed B.named
  have hlocks := B.notSynchronized
  subst hsz
  have hD := hD0.self (sz := s.heap.size)
  generalize hAe : va_A [(h_a, .inr (2, [.ref h_a_rows, .int a_size])), (h_a_rows, .inl (cL, 24, .inr (.inl a_rows)))] s.heap.size = A at hD ⊢
  have hA : ∀ q : Nat, s.heap.size ≤ q → A q := fun q h => by rw [← hAe]; exact Or.inr h
  have hS : va_S A s.heap s.heap [] := va_S.rf
  have hP : va_P (dC, dI) zCl [(h_a, .inr (2, [.ref h_a_rows, .int a_size])), (h_a_rows, .inl (cL, 24, .inr (.inl a_rows)))] s.heap := hP
  have hl := lv_entry ([.ref h_a, .long x0, .int x1]) (n := 7) (Nat.le_of_ble_eq_true rfl)
  rw [lg_entry_eq]
  generalize (lg_sl ([.ref h_a, .long x0, .int x1]) ++ List.replicate (7 - (lg_sl ([.ref h_a, .long x0, .int x1])).length) Slot.unset).toArray = ls at hl ⊢
  have hl : lv_has ls 7 [(0, .ref h_a), (1, .long x0), (3, .int x1)] := hl
  have KR : ∀ (pc : Nat) (ls : Array Slot) (H : Heap) (locs : List Loc), decode zc_Set_placesAlong pc = .ok (.ireturn, 1) → va_P (dC, dI) zCl [(h_a, .inr (2, [.ref h_a_rows, .int a_size])), (h_a_rows, .inl (cL, 24, .inr (.inl a_rows)))] H → va_D A [(h_a, .inr (2, [.ref h_a_rows, .int a_size])), (h_a_rows, .inl (cL, 24, .inr (.inl a_rows)))] → va_S A s.heap H locs → W p l e (headSpec zw_Set_placesAlong ({ frames := 4, cells := 0, slots := 0, locals := 97 })).room s m ([.ref h_a, .long x0, .int x1] : List Value).toArray below meth c H locs 0 0 (MQ below (va_Qi (fun (r : Int32) (_ : Unit) => u = r) (fun _ t => va_P (dC, dI) zCl [(h_a, .inr (2, [.ref h_a_rows, .int a_size])), (h_a_rows, .inl (cL, 24, .inr (.inl a_rows)))] t.heap ∧ va_D A [(h_a, .inr (2, [.ref h_a_rows, .int a_size])), (h_a_rows, .inl (cL, 24, .inr (.inl a_rows)))]) A) ([.ref h_a, .long x0, .int x1] : List Value).toArray s 0 0 A) (F0 m pc ls [.int u]) := by
    intro pc ls H locs hd hP9 hD9 hS
    exact W.iret (v := u) hx hb hr (fun t ht hW => ⟨⟨u, (), rfl, rfl, by rw [ht]; exact hP9, hD9⟩, hS.F ht⟩) hS.2.2 hd
  generalize (MQ below (va_Qi (fun (r : Int32) (_ : Unit) => u = r) (fun _ t => va_P (dC, dI) zCl [(h_a, .inr (2, [.ref h_a_rows, .int a_size])), (h_a_rows, .inl (cL, 24, .inr (.inl a_rows)))] t.heap ∧ va_D A [(h_a, .inr (2, [.ref h_a_rows, .int a_size])), (h_a_rows, .inl (cL, 24, .inr (.inl a_rows)))]) A) ([.ref h_a, .long x0, .int x1] : List Value).toArray s 0 0 A) = Q at KR ⊢
  have L12 : ∀ (n : Nat) (l1 : Int64) (l3 : Int32) (l4 : Int32) (l5 : Int32) (l6 : Int32) (a_rows : Nat → Int64) (a_size : Int32) (ls : Array Slot) (H : Heap) (locs : List Loc) (uu : (Int32 × Int32)), lv_has ls 7 [(0, .ref h_a), (1, .long l1), (3, .int l3), (4, .int l4), (5, .int l5), (6, .int l6)] → va_P (dC, dI) zCl [(h_a, .inr (2, [.ref h_a_rows, .int a_size])), (h_a_rows, .inl (cL, 24, .inr (.inl a_rows)))] H → va_D A [(h_a, .inr (2, [.ref h_a_rows, .int a_size])), (h_a_rows, .inl (cL, 24, .inr (.inl a_rows)))] → va_S A s.heap H locs → m_RowSet_placesAlong_l12 l1 l4 a_rows a_size n l5 l6 = some uu → (∀ (ls : Array Slot) (H : Heap) (locs : List Loc), lv_has ls 7 [(0, .ref h_a), (1, .long l1), (3, .int l3), (4, .int l4), (5, .int uu.1), (6, .int uu.2)] → va_P (dC, dI) zCl [(h_a, .inr (2, [.ref h_a_rows, .int a_size])), (h_a_rows, .inl (cL, 24, .inr (.inl a_rows)))] H → va_D A [(h_a, .inr (2, [.ref h_a_rows, .int a_size])), (h_a_rows, .inl (cL, 24, .inr (.inl a_rows)))] → va_S A s.heap H locs → W p l e (headSpec zw_Set_placesAlong ({ frames := 4, cells := 0, slots := 0, locals := 97 })).room s m ([.ref h_a, .long x0, .int x1] : List Value).toArray below meth c H locs 0 0 Q (F0 m 38 ls [])) → W p l e (headSpec zw_Set_placesAlong ({ frames := 4, cells := 0, slots := 0, locals := 97 })).room s m ([.ref h_a, .long x0, .int x1] : List Value).toArray below meth c H locs 0 0 Q (F0 m 12 ls []) := by
    intro n
    induction n with
    | zero =>
      intro l1 l3 l4 l5 l6 a_rows a_size ls H locs uu hl hP hD hS hm K
      rw [m_RowSet_placesAlong_l12] at hm
      cases hm
    | succ n ih =>
      intro l1 l3 l4 l5 l6 a_rows a_size ls H locs uu hl hP hD hS hm K
      rw [m_RowSet_placesAlong_l12] at hm
      refine lv_iload hx hb zd_Set_placesAlong_12 (lv_at hl 5 rfl) ?_
      refine lv_iload hx hb zd_Set_placesAlong_14 (lv_at hl 3 rfl) ?_
      refine lv_icmp_gt (tgt := 38) hx hb zd_Set_placesAlong_16 (by decide) (fun hc => ?_) (fun hc => ?_)
      · rw [if_pos hc] at hm
        obtain rfl := Option.some.inj hm
        exact K ls H locs (lv_sub hl [0, 1, 2, 3, 4, 5] rfl) hP hD hS
      · rw [if_neg hc] at hm
        refine lv_aload_n hx hb zd_Set_placesAlong_19 rfl (lv_at hl 0 rfl) ?_
        refine lv_lload_n hx hb zd_Set_placesAlong_20 rfl (lv_at hl 1 rfl) ?_
        refine lv_iload hx hb zd_Set_placesAlong_21 (lv_at hl 5 rfl) ?_
        obtain ⟨u2, hu2, hm⟩ := Option.bind_eq_some_iff.mp hm
        have hPc := hP
        have hDc := hD
        have hFc := va_free (wc := [(h_a, .inr (2, [.ref h_a_rows, .int a_size])), (h_a_rows, .inl (cL, 24, .inr (.inl a_rows)))]) hD hS hA [0, 1] rfl
        refine va_calli (va_runV (As := [.long l1, .int l6]) (rest := []) ⟨hx, hb, hml, hown, hts⟩ (c_RowSet_isPlaceAlong l dC dI cL cI h_a h_a_rows H.size l1 l6 a_rows a_size u2 hu2) (cwV 2 hts (zgV wk122 wk123 wk124 wk11 wk125) rfl rfl rfl zh_Set_isPlaceAlong ⟨Nat.le_of_ble_eq_true rfl, Nat.le_of_ble_eq_true rfl⟩) ⟨fun a U g mk q => by obtain ⟨q0, q1, qP, qK, qD⟩ := q; exact ⟨q0, q1, qP, va_K.moved (u := U) (U := U.calling g mk a) (Vm.Alike.refl U.vm) qK, qD⟩, va_recv hK hP (ci := 2) (q0 := 0) rfl rfl, fun U hU hW => ⟨rfl, by rw [hU], by rw [hU]; exact hPc, va_K.moved hW.alike hK, hDc.weaken (fun _ _ _ _ => trivial)⟩⟩ rfl rfl hl.1 rfl (lv_room (Nat.le_of_ble_eq_true rfl)) zd_Set_placesAlong_23 ⟨Nat.le_of_ble_eq_true rfl, Nat.le_of_ble_eq_true rfl⟩) hS (fun q _ h => hFc q h) hFc (fun r1 _ t H1 locs ht hvm hw hB hz1 hk1 hS => ?_)
        subst hw
        obtain ⟨hP1, hD1⟩ := hB
        rw [ht] at hP1
        have hP := hP1
        have hD := hD1.weaken (fun _ q _ h => hFc q.1 h)
        generalize H1 = H at hP hS ⊢
        refine lv_if_eq (tgt := 32) hx hb zd_Set_placesAlong_26 (by decide) (fun hc => ?_) (fun hc => ?_)
        · rw [if_pos hc] at hm
          refine lv_iinc (k := 5) (v := (l6 + 1)) (lv' := [(6, .int ((l6 + 1))), (0, .ref h_a), (1, .long l1), (3, .int l3), (4, .int l4), (5, .int l5)]) hx hb zd_Set_placesAlong_32 hl rfl rfl (by decide) rfl (fun ls hl => ?_)
          refine lv_goto (tgt := 12) hx hb zd_Set_placesAlong_35 (by decide) ?_
          exact ih l1 l3 l4 l5 ((l6 + 1)) a_rows a_size ls H locs uu (lv_sub hl [1, 2, 3, 4, 5, 0] rfl) hP hD hS hm K
        · rw [if_neg hc] at hm
          refine lv_iinc (k := 4) (v := (l5 + 1)) (lv' := [(5, .int ((l5 + 1))), (0, .ref h_a), (1, .long l1), (3, .int l3), (4, .int l4), (6, .int l6)]) hx hb zd_Set_placesAlong_29 hl rfl rfl (by decide) rfl (fun ls hl => ?_)
          refine lv_iinc (k := 5) (v := (l6 + 1)) (lv' := [(6, .int ((l6 + 1))), (5, .int ((l5 + 1))), (0, .ref h_a), (1, .long l1), (3, .int l3), (4, .int l4)]) hx hb zd_Set_placesAlong_32 hl rfl rfl (by decide) rfl (fun ls hl => ?_)
          refine lv_goto (tgt := 12) hx hb zd_Set_placesAlong_35 (by decide) ?_
          exact ih l1 l3 l4 ((l5 + 1)) ((l6 + 1)) a_rows a_size ls H locs uu (lv_sub hl [2, 3, 4, 5, 1, 0] rfl) hP hD hS hm K
  unfold m_RowSet_placesAlong at hm
  refine lv_lload_n hx hb zd_Set_placesAlong_0 rfl (lv_at hl 1 rfl) ?_
  obtain ⟨u1, hu1, hm⟩ := Option.bind_eq_some_iff.mp hm
  have hPc := hP.sub (ws' := []) [] rfl
  have hDc := hD.sub (ws' := []) [] (by decide) rfl
  have hFc := va_free (wc := []) hD hS hA [] rfl
  refine va_calli (va_runS (As := [.long x0]) (rest := []) ⟨hx, hb, hml, hown, hts⟩ (c_Row_lengthOf l dC dI cL cI s.heap.size x0 u1 hu1) (va_cwS 1 hts (zgS wk117 wk99 wk35 wk93) rfl rfl rfl zh_Row_lengthOf.2 ⟨Nat.le_of_ble_eq_true rfl, Nat.le_of_ble_eq_true rfl⟩) ⟨fun a U g mk q => by obtain ⟨q0, q1, qP, qK, qD⟩ := q; exact ⟨q0, q1, qP, va_K.moved (u := U) (U := U.calling g mk a) (Vm.Alike.refl U.vm) qK, qD⟩, fun U hU hW => ⟨rfl, by rw [hU], by rw [hU]; exact hPc, va_K.moved hW.alike hK, hDc.weaken (fun _ _ _ _ => trivial)⟩⟩ rfl rfl hl.1 rfl (lv_room (Nat.le_of_ble_eq_true rfl)) zd_Set_placesAlong_1 ⟨Nat.le_of_ble_eq_true rfl, Nat.le_of_ble_eq_true rfl⟩) hS (fun q _ h => hFc q h) hFc (fun r1 _ t H1 locs ht hvm hw hB hz1 hk1 hS => ?_)
  subst hw
  obtain ⟨hP1, hD1⟩ := hB
  rw [ht] at hP1
  obtain ⟨hP, hD⟩ := va_join (wr := [(h_a, .inr (2, [.ref h_a_rows, .int a_size])), (h_a_rows, .inl (cL, 24, .inr (.inl a_rows)))]) (w1 := []) hP hD [] [0, 1] rfl rfl (by decide) (by decide) hk1 hFc hP1 hD1
  generalize H1 = H at hP hS ⊢
  have hP : va_P (dC, dI) zCl [(h_a, .inr (2, [.ref h_a_rows, .int a_size])), (h_a_rows, .inl (cL, 24, .inr (.inl a_rows)))] H := hP.sub [0, 1] rfl
  have hD : va_D A [(h_a, .inr (2, [.ref h_a_rows, .int a_size])), (h_a_rows, .inl (cL, 24, .inr (.inl a_rows)))] := hD.sub [0, 1] (by decide) rfl
  refine lv_istore (lv' := [(4, .int u1), (0, .ref h_a), (1, .long x0), (3, .int x1)]) hx hb zd_Set_placesAlong_4 hl (by decide) rfl (fun ls hl => ?_)
  refine lv_iconst (v := 0) hx hb zd_Set_placesAlong_6 (by decide) ?_
  refine lv_istore (lv' := [(5, .int 0), (4, .int u1), (0, .ref h_a), (1, .long x0), (3, .int x1)]) hx hb zd_Set_placesAlong_7 hl (by decide) rfl (fun ls hl => ?_)
  refine lv_iload_n hx hb zd_Set_placesAlong_9 rfl (lv_at hl 4 rfl) ?_
  refine lv_istore (lv' := [(6, .int x1), (5, .int 0), (4, .int u1), (0, .ref h_a), (1, .long x0), (3, .int x1)]) hx hb zd_Set_placesAlong_10 hl (by decide) rfl (fun ls hl => ?_)
  obtain ⟨u3, hu3, hm⟩ := Option.bind_eq_some_iff.mp hm
  refine L12 100 x0 x1 u1 0 x1 a_rows a_size ls _ _ u3 (lv_sub hl [3, 4, 5, 2, 1, 0] rfl) hP hD hS hu3 (fun ls H locs hl hP hD hS => ?_)
  refine lv_iload hx hb zd_Set_placesAlong_38 (lv_at hl 4 rfl) ?_
  obtain rfl := Option.some.inj hm
  exact KR 40 ls _ _ zd_Set_placesAlong_40 hP hD hS
