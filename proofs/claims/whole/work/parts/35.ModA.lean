set_option maxHeartbeats 4000000 in
set_option maxRecDepth 100000 in
theorem c_M_thrown (l : Launch) (dC : Nat → ClassId) (dI : Nat → Nat → Nat) (cL cI : ClassId) (h_a h_a_names h_a_lengths h_a_serials h_a_targets h_a_rowBytes h_a_rowLengths h_a_placeBytes h_a_placeLengths : Nat) (sz : Nat) (a_thrown : Int32) (a_count : Int32) (a_names : Nat → Int64) (a_lengths : Nat → Int32) (a_serials : Nat → Int32) (a_targets : Nat → Int32) (a_latest : Int32) (a_hand : Int64) (a_handLength : Int32) (a_foundSerial : Int32) (a_rows : Int32) (a_rowBytes : Nat → Int64) (a_rowLengths : Nat → Int32) (a_places : Int32) (a_placeBytes : Nat → Int64) (a_placeLengths : Nat → Int32) (a_off : Int32) (a_left : Int32) (a_made : Int32) (u : Int32) (hm : m_M_thrown a_thrown = some u) : Met l zy_Mod_thrown zw_Mod_thrown ({ frames := 0, cells := 0, slots := 0, locals := 0 }) (va_Pc [.ref h_a] (fun U => U.heap.size = sz ∧ va_P (dC, dI) zCl [(h_a, .inr (4, [.int a_thrown, .int a_count, .ref h_a_names, .ref h_a_lengths, .ref h_a_serials, .ref h_a_targets, .int a_latest, .long a_hand, .int a_handLength, .int a_foundSerial, .int a_rows, .ref h_a_rowBytes, .ref h_a_rowLengths, .int a_places, .ref h_a_placeBytes, .ref h_a_placeLengths, .int a_off, .int a_left, .int a_made]))] U.heap ∧ va_K (dC, dI) zCl [(cL, .long), (cI, .int)] U ∧ va_D (fun _ => True) [(h_a, .inr (4, [.int a_thrown, .int a_count, .ref h_a_names, .ref h_a_lengths, .ref h_a_serials, .ref h_a_targets, .int a_latest, .long a_hand, .int a_handLength, .int a_foundSerial, .int a_rows, .ref h_a_rowBytes, .ref h_a_rowLengths, .int a_places, .ref h_a_placeBytes, .ref h_a_placeLengths, .int a_off, .int a_left, .int a_made]))])) (va_Qi (fun (r : Int32) (_ : Unit) => u = r) (fun _ t => va_P (dC, dI) zCl [(h_a, .inr (4, [.int a_thrown, .int a_count, .ref h_a_names, .ref h_a_lengths, .ref h_a_serials, .ref h_a_targets, .int a_latest, .long a_hand, .int a_handLength, .int a_foundSerial, .int a_rows, .ref h_a_rowBytes, .ref h_a_rowLengths, .int a_places, .ref h_a_placeBytes, .ref h_a_placeLengths, .int a_off, .int a_left, .int a_made]))] t.heap ∧ va_D (va_A [(h_a, .inr (4, [.int a_thrown, .int a_count, .ref h_a_names, .ref h_a_lengths, .ref h_a_serials, .ref h_a_targets, .int a_latest, .long a_hand, .int a_handLength, .int a_foundSerial, .int a_rows, .ref h_a_rowBytes, .ref h_a_rowLengths, .int a_places, .ref h_a_placeBytes, .ref h_a_placeLengths, .int a_off, .int a_left, .int a_made]))] sz) [(h_a, .inr (4, [.int a_thrown, .int a_count, .ref h_a_names, .ref h_a_lengths, .ref h_a_serials, .ref h_a_targets, .int a_latest, .long a_hand, .int a_handLength, .int a_foundSerial, .int a_rows, .ref h_a_rowBytes, .ref h_a_rowLengths, .int a_places, .ref h_a_placeBytes, .ref h_a_placeLengths, .int a_off, .int a_left, .int a_made]))]) (va_A [(h_a, .inr (4, [.int a_thrown, .int a_count, .ref h_a_names, .ref h_a_lengths, .ref h_a_serials, .ref h_a_targets, .int a_latest, .long a_hand, .int a_handLength, .int a_foundSerial, .int a_rows, .ref h_a_rowBytes, .ref h_a_rowLengths, .int a_places, .ref h_a_placeBytes, .ref h_a_placeLengths, .int a_off, .int a_left, .int a_made]))] sz)) 0 0 (va_A [(h_a, .inr (4, [.int a_thrown, .int a_count, .ref h_a_names, .ref h_a_lengths, .ref h_a_serials, .ref h_a_targets, .int a_latest, .long a_hand, .int a_handLength, .int a_foundSerial, .int a_rows, .ref h_a_rowBytes, .ref h_a_rowLengths, .int a_places, .ref h_a_placeBytes, .ref h_a_placeLengths, .int a_off, .int a_left, .int a_made]))] sz) := by
  refine Met.ofW (cc := zc_Mod_thrown) (maxL := 1) (ret := (some .int)) (by decide) rfl ?_
  intro p e s m args below meth c s₁ B hml hv
  obtain ⟨rfl, hsz, hP, hK, hD0⟩ := hv
  have hx := B.exec
  have hb := B.bytes
  have hr := B.returns
  have hts0 := atoms_spec (ws := zw_Mod_thrown) B.pre
  have hts : ∀ w ∈ WSg, w.before _ s = true := fun w h => hts0 w (List.mem_cons_of_mem _ h)
  clear hts0
  have hown : s.vm.findClass zR_Mod = some m.cls := findClass_of_methodNamed B.named
  have hlocks := B.notSynchronized
  subst hsz
  have hD := hD0.self (sz := s.heap.size)
  generalize hAe : va_A [(h_a, .inr (4, [.int a_thrown, .int a_count, .ref h_a_names, .ref h_a_lengths, .ref h_a_serials, .ref h_a_targets, .int a_latest, .long a_hand, .int a_handLength, .int a_foundSerial, .int a_rows, .ref h_a_rowBytes, .ref h_a_rowLengths, .int a_places, .ref h_a_placeBytes, .ref h_a_placeLengths, .int a_off, .int a_left, .int a_made]))] s.heap.size = A at hD ⊢
  have hA : ∀ q : Nat, s.heap.size ≤ q → A q := fun q h => by rw [← hAe]; exact Or.inr h
  have hS : va_S A s.heap s.heap [] := va_S.rf
  have hP : va_P (dC, dI) zCl [(h_a, .inr (4, [.int a_thrown, .int a_count, .ref h_a_names, .ref h_a_lengths, .ref h_a_serials, .ref h_a_targets, .int a_latest, .long a_hand, .int a_handLength, .int a_foundSerial, .int a_rows, .ref h_a_rowBytes, .ref h_a_rowLengths, .int a_places, .ref h_a_placeBytes, .ref h_a_placeLengths, .int a_off, .int a_left, .int a_made]))] s.heap := hP
  have hl := lv_entry ([.ref h_a]) (n := 1) (Nat.le_of_ble_eq_true rfl)
  rw [lg_entry_eq]
  generalize (lg_sl ([.ref h_a]) ++ List.replicate (1 - (lg_sl ([.ref h_a])).length) Slot.unset).toArray = ls at hl ⊢
  have hl : lv_has ls 1 [(0, .ref h_a)] := hl
  have KR : ∀ (pc : Nat) (ls : Array Slot) (H : Heap) (locs : List Loc), decode zc_Mod_thrown pc = .ok (.ireturn, 1) → va_P (dC, dI) zCl [(h_a, .inr (4, [.int a_thrown, .int a_count, .ref h_a_names, .ref h_a_lengths, .ref h_a_serials, .ref h_a_targets, .int a_latest, .long a_hand, .int a_handLength, .int a_foundSerial, .int a_rows, .ref h_a_rowBytes, .ref h_a_rowLengths, .int a_places, .ref h_a_placeBytes, .ref h_a_placeLengths, .int a_off, .int a_left, .int a_made]))] H → va_D A [(h_a, .inr (4, [.int a_thrown, .int a_count, .ref h_a_names, .ref h_a_lengths, .ref h_a_serials, .ref h_a_targets, .int a_latest, .long a_hand, .int a_handLength, .int a_foundSerial, .int a_rows, .ref h_a_rowBytes, .ref h_a_rowLengths, .int a_places, .ref h_a_placeBytes, .ref h_a_placeLengths, .int a_off, .int a_left, .int a_made]))] → va_S A s.heap H locs → W p l e (headSpec zw_Mod_thrown ({ frames := 0, cells := 0, slots := 0, locals := 0 })).room s m ([.ref h_a] : List Value).toArray below meth c H locs 0 0 (MQ below (va_Qi (fun (r : Int32) (_ : Unit) => u = r) (fun _ t => va_P (dC, dI) zCl [(h_a, .inr (4, [.int a_thrown, .int a_count, .ref h_a_names, .ref h_a_lengths, .ref h_a_serials, .ref h_a_targets, .int a_latest, .long a_hand, .int a_handLength, .int a_foundSerial, .int a_rows, .ref h_a_rowBytes, .ref h_a_rowLengths, .int a_places, .ref h_a_placeBytes, .ref h_a_placeLengths, .int a_off, .int a_left, .int a_made]))] t.heap ∧ va_D A [(h_a, .inr (4, [.int a_thrown, .int a_count, .ref h_a_names, .ref h_a_lengths, .ref h_a_serials, .ref h_a_targets, .int a_latest, .long a_hand, .int a_handLength, .int a_foundSerial, .int a_rows, .ref h_a_rowBytes, .ref h_a_rowLengths, .int a_places, .ref h_a_placeBytes, .ref h_a_placeLengths, .int a_off, .int a_left, .int a_made]))]) A) ([.ref h_a] : List Value).toArray s 0 0 A) (F0 m pc ls [.int u]) := by
    intro pc ls H locs hd hP9 hD9 hS
    exact W.iret (v := u) hx hb hr (fun t ht hW => ⟨⟨u, (), rfl, rfl, by rw [ht]; exact hP9, hD9⟩, hS.F ht⟩) hS.2.2 hd
  generalize (MQ below (va_Qi (fun (r : Int32) (_ : Unit) => u = r) (fun _ t => va_P (dC, dI) zCl [(h_a, .inr (4, [.int a_thrown, .int a_count, .ref h_a_names, .ref h_a_lengths, .ref h_a_serials, .ref h_a_targets, .int a_latest, .long a_hand, .int a_handLength, .int a_foundSerial, .int a_rows, .ref h_a_rowBytes, .ref h_a_rowLengths, .int a_places, .ref h_a_placeBytes, .ref h_a_placeLengths, .int a_off, .int a_left, .int a_made]))] t.heap ∧ va_D A [(h_a, .inr (4, [.int a_thrown, .int a_count, .ref h_a_names, .ref h_a_lengths, .ref h_a_serials, .ref h_a_targets, .int a_latest, .long a_hand, .int a_handLength, .int a_foundSerial, .int a_rows, .ref h_a_rowBytes, .ref h_a_rowLengths, .int a_places, .ref h_a_placeBytes, .ref h_a_placeLengths, .int a_off, .int a_left, .int a_made]))]) A) ([.ref h_a] : List Value).toArray s 0 0 A) = Q at KR ⊢
  unfold m_M_thrown at hm
  refine lv_aload_n hx hb zd_Mod_thrown_0 rfl (lv_at hl 0 rfl) ?_
  refine va_get (D := (dC, dI)) (ci := 4) (v := .int a_thrown) (C := zR_Mod) (T := zT_Mod) (N := 19) hx hb hts zu_Mod hown hK hP 0 rfl rfl 0 (by decide) (hts _ wk410) (fun _ h9 => h9) rfl zd_Mod_thrown_1 ?_
  obtain rfl := Option.some.inj hm
  exact KR 4 ls _ _ zd_Mod_thrown_4 hP hD hS
set_option maxHeartbeats 4000000 in
set_option maxRecDepth 100000 in
theorem c_M_firstOf (l : Launch) (dC : Nat → ClassId) (dI : Nat → Nat → Nat) (cL cI : ClassId) (sz : Nat) (x0 : Int64) (x1 : Int32) (u : Int64) (hm : m_M_firstOf x0 x1 = some u) : Met l zy_Mod_firstOf zw_Mod_firstOf ({ frames := 0, cells := 0, slots := 0, locals := 0 }) (va_Pc [.long x0, .int x1] (fun U => U.heap.size = sz ∧ va_P (dC, dI) zCl [] U.heap ∧ va_K (dC, dI) zCl [(cL, .long), (cI, .int)] U ∧ va_D (fun _ => True) [])) (va_Ql (fun (r : Int64) (_ : Unit) => u = r) (fun _ t => va_P (dC, dI) zCl [] t.heap ∧ va_D (va_A [] sz) []) (va_A [] sz)) 0 0 (va_A [] sz) := by
  refine Met.ofW (cc := zc_Mod_firstOf) (maxL := 3) (ret := (some .long)) (by decide) rfl ?_
  intro p e s m args below meth c s₁ B hml hv
  obtain ⟨rfl, hsz, hP, hK, hD0⟩ := hv
  have hx := B.exec
  have hb := B.bytes
  have hr := B.returns
  have hts0 := atoms_spec (ws := zw_Mod_firstOf) B.pre
  have hts : ∀ w ∈ WSg, w.before _ s = true := fun w h => hts0 w (List.mem_cons_of_mem _ h)
  clear hts0
  have hown : s.vm.findClass zR_Mod = some m.cls := findClass_of_methodNamed B.named
  have hlocks := B.notSynchronized
  subst hsz
  have hD := hD0.self (sz := s.heap.size)
  generalize hAe : va_A [] s.heap.size = A at hD ⊢
  have hA : ∀ q : Nat, s.heap.size ≤ q → A q := fun q h => by rw [← hAe]; exact Or.inr h
  have hS : va_S A s.heap s.heap [] := va_S.rf
  have hP : va_P (dC, dI) zCl [] s.heap := hP
  have hl := lv_entry ([.long x0, .int x1]) (n := 3) (Nat.le_of_ble_eq_true rfl)
  rw [lg_entry_eq]
  generalize (lg_sl ([.long x0, .int x1]) ++ List.replicate (3 - (lg_sl ([.long x0, .int x1])).length) Slot.unset).toArray = ls at hl ⊢
  have hl : lv_has ls 3 [(0, .long x0), (2, .int x1)] := hl
  have KR : ∀ (pc : Nat) (ls : Array Slot) (H : Heap) (locs : List Loc), decode zc_Mod_firstOf pc = .ok (.lreturn, 1) → va_P (dC, dI) zCl [] H → va_D A [] → va_S A s.heap H locs → W p l e (headSpec zw_Mod_firstOf ({ frames := 0, cells := 0, slots := 0, locals := 0 })).room s m ([.long x0, .int x1] : List Value).toArray below meth c H locs 0 0 (MQ below (va_Ql (fun (r : Int64) (_ : Unit) => u = r) (fun _ t => va_P (dC, dI) zCl [] t.heap ∧ va_D A []) A) ([.long x0, .int x1] : List Value).toArray s 0 0 A) (F0 m pc ls [.long u]) := by
    intro pc ls H locs hd hP9 hD9 hS
    exact W.lret (v := u) hx hb hr (fun t ht hW => ⟨⟨u, (), rfl, rfl, by rw [ht]; exact hP9, hD9⟩, hS.F ht⟩) hS.2.2 hd
  generalize (MQ below (va_Ql (fun (r : Int64) (_ : Unit) => u = r) (fun _ t => va_P (dC, dI) zCl [] t.heap ∧ va_D A []) A) ([.long x0, .int x1] : List Value).toArray s 0 0 A) = Q at KR ⊢
  unfold m_M_firstOf at hm
  refine lv_lload_n hx hb zd_Mod_firstOf_0 rfl (lv_at hl 0 rfl) ?_
  refine lv_lconst (v := 1) hx hb zd_Mod_firstOf_1 (by decide) ?_
  refine lv_bipush (v := 8) hx hb zd_Mod_firstOf_2 (by decide) ?_
  refine lv_iload_n hx hb zd_Mod_firstOf_4 rfl (lv_at hl 1 rfl) ?_
  refine lv_imul hx hb zd_Mod_firstOf_5 ?_
  refine lv_lshl (v := (1 <<< (((8 * x1) : Int32).toInt64 &&& 63))) hx hb zd_Mod_firstOf_6 rfl ?_
  refine lv_lconst (v := 1) hx hb zd_Mod_firstOf_7 (by decide) ?_
  refine lv_lsub hx hb zd_Mod_firstOf_8 ?_
  refine lv_land hx hb zd_Mod_firstOf_9 ?_
  obtain rfl := Option.some.inj hm
  exact KR 10 ls _ _ zd_Mod_firstOf_10 hP hD hS
set_option maxHeartbeats 4000000 in
set_option maxRecDepth 100000 in
theorem c_M_name (l : Launch) (dC : Nat → ClassId) (dI : Nat → Nat → Nat) (cL cI : ClassId) (h_a h_a_names h_a_lengths h_a_serials h_a_targets h_a_rowBytes h_a_rowLengths h_a_placeBytes h_a_placeLengths : Nat) (sz : Nat) (x0 : Int64) (x1 : Int32) (a_thrown : Int32) (a_count : Int32) (a_names : Nat → Int64) (a_lengths : Nat → Int32) (a_serials : Nat → Int32) (a_targets : Nat → Int32) (a_latest : Int32) (a_hand : Int64) (a_handLength : Int32) (a_foundSerial : Int32) (a_rows : Int32) (a_rowBytes : Nat → Int64) (a_rowLengths : Nat → Int32) (a_places : Int32) (a_placeBytes : Nat → Int64) (a_placeLengths : Nat → Int32) (a_off : Int32) (a_left : Int32) (a_made : Int32) (u : Int32 × Int64 × Int32) (hm : m_M_name x0 x1 a_hand a_handLength = some u) : Met l zy_Mod_name zw_Mod_name ({ frames := 1, cells := 0, slots := 0, locals := 22 }) (va_Pc [.ref h_a, .long x0, .int x1] (fun U => U.heap.size = sz ∧ va_P (dC, dI) zCl [(h_a, .inr (4, [.int a_thrown, .int a_count, .ref h_a_names, .ref h_a_lengths, .ref h_a_serials, .ref h_a_targets, .int a_latest, .long a_hand, .int a_handLength, .int a_foundSerial, .int a_rows, .ref h_a_rowBytes, .ref h_a_rowLengths, .int a_places, .ref h_a_placeBytes, .ref h_a_placeLengths, .int a_off, .int a_left, .int a_made]))] U.heap ∧ va_K (dC, dI) zCl [(cL, .long), (cI, .int)] U ∧ va_D (fun _ => True) [(h_a, .inr (4, [.int a_thrown, .int a_count, .ref h_a_names, .ref h_a_lengths, .ref h_a_serials, .ref h_a_targets, .int a_latest, .long a_hand, .int a_handLength, .int a_foundSerial, .int a_rows, .ref h_a_rowBytes, .ref h_a_rowLengths, .int a_places, .ref h_a_placeBytes, .ref h_a_placeLengths, .int a_off, .int a_left, .int a_made]))])) (va_Qv (fun _ : Unit => True) (fun _ t => va_P (dC, dI) zCl [(h_a, .inr (4, [.int u.1, .int a_count, .ref h_a_names, .ref h_a_lengths, .ref h_a_serials, .ref h_a_targets, .int a_latest, .long u.2.1, .int u.2.2, .int a_foundSerial, .int a_rows, .ref h_a_rowBytes, .ref h_a_rowLengths, .int a_places, .ref h_a_placeBytes, .ref h_a_placeLengths, .int a_off, .int a_left, .int a_made]))] t.heap ∧ va_D (va_A [(h_a, .inr (4, [.int a_thrown, .int a_count, .ref h_a_names, .ref h_a_lengths, .ref h_a_serials, .ref h_a_targets, .int a_latest, .long a_hand, .int a_handLength, .int a_foundSerial, .int a_rows, .ref h_a_rowBytes, .ref h_a_rowLengths, .int a_places, .ref h_a_placeBytes, .ref h_a_placeLengths, .int a_off, .int a_left, .int a_made]))] sz) [(h_a, .inr (4, [.int u.1, .int a_count, .ref h_a_names, .ref h_a_lengths, .ref h_a_serials, .ref h_a_targets, .int a_latest, .long u.2.1, .int u.2.2, .int a_foundSerial, .int a_rows, .ref h_a_rowBytes, .ref h_a_rowLengths, .int a_places, .ref h_a_placeBytes, .ref h_a_placeLengths, .int a_off, .int a_left, .int a_made]))]) (va_A [(h_a, .inr (4, [.int a_thrown, .int a_count, .ref h_a_names, .ref h_a_lengths, .ref h_a_serials, .ref h_a_targets, .int a_latest, .long a_hand, .int a_handLength, .int a_foundSerial, .int a_rows, .ref h_a_rowBytes, .ref h_a_rowLengths, .int a_places, .ref h_a_placeBytes, .ref h_a_placeLengths, .int a_off, .int a_left, .int a_made]))] sz)) 0 0 (va_A [(h_a, .inr (4, [.int a_thrown, .int a_count, .ref h_a_names, .ref h_a_lengths, .ref h_a_serials, .ref h_a_targets, .int a_latest, .long a_hand, .int a_handLength, .int a_foundSerial, .int a_rows, .ref h_a_rowBytes, .ref h_a_rowLengths, .int a_places, .ref h_a_placeBytes, .ref h_a_placeLengths, .int a_off, .int a_left, .int a_made]))] sz) := by
  refine Met.ofW (cc := zc_Mod_name) (maxL := 7) (ret := none) (by decide) rfl ?_
  intro p e s m args below meth c s₁ B hml hv
  obtain ⟨rfl, hsz, hP, hK, hD0⟩ := hv
  have hx := B.exec
  have hb := B.bytes
  have hr := B.returns
  have hts0 := atoms_spec (ws := zw_Mod_name) B.pre
  have hts : ∀ w ∈ WSg, w.before _ s = true := fun w h => hts0 w (List.mem_cons_of_mem _ h)
  clear hts0
  have hown : s.vm.findClass zR_Mod = some m.cls := findClass_of_methodNamed B.named
  have hlocks := B.notSynchronized
  subst hsz
  have hD := hD0.self (sz := s.heap.size)
  generalize hAe : va_A [(h_a, .inr (4, [.int a_thrown, .int a_count, .ref h_a_names, .ref h_a_lengths, .ref h_a_serials, .ref h_a_targets, .int a_latest, .long a_hand, .int a_handLength, .int a_foundSerial, .int a_rows, .ref h_a_rowBytes, .ref h_a_rowLengths, .int a_places, .ref h_a_placeBytes, .ref h_a_placeLengths, .int a_off, .int a_left, .int a_made]))] s.heap.size = A at hD ⊢
  have hA : ∀ q : Nat, s.heap.size ≤ q → A q := fun q h => by rw [← hAe]; exact Or.inr h
  have hS : va_S A s.heap s.heap [] := va_S.rf
  have hP : va_P (dC, dI) zCl [(h_a, .inr (4, [.int a_thrown, .int a_count, .ref h_a_names, .ref h_a_lengths, .ref h_a_serials, .ref h_a_targets, .int a_latest, .long a_hand, .int a_handLength, .int a_foundSerial, .int a_rows, .ref h_a_rowBytes, .ref h_a_rowLengths, .int a_places, .ref h_a_placeBytes, .ref h_a_placeLengths, .int a_off, .int a_left, .int a_made]))] s.heap := hP
  have hl := lv_entry ([.ref h_a, .long x0, .int x1]) (n := 7) (Nat.le_of_ble_eq_true rfl)
  rw [lg_entry_eq]
  generalize (lg_sl ([.ref h_a, .long x0, .int x1]) ++ List.replicate (7 - (lg_sl ([.ref h_a, .long x0, .int x1])).length) Slot.unset).toArray = ls at hl ⊢
  have hl : lv_has ls 7 [(0, .ref h_a), (1, .long x0), (3, .int x1)] := hl
  have KR : ∀ (pc : Nat) (ls : Array Slot) (H : Heap) (locs : List Loc), decode zc_Mod_name pc = .ok (.return_, 1) → va_P (dC, dI) zCl [(h_a, .inr (4, [.int u.1, .int a_count, .ref h_a_names, .ref h_a_lengths, .ref h_a_serials, .ref h_a_targets, .int a_latest, .long u.2.1, .int u.2.2, .int a_foundSerial, .int a_rows, .ref h_a_rowBytes, .ref h_a_rowLengths, .int a_places, .ref h_a_placeBytes, .ref h_a_placeLengths, .int a_off, .int a_left, .int a_made]))] H → va_D A [(h_a, .inr (4, [.int u.1, .int a_count, .ref h_a_names, .ref h_a_lengths, .ref h_a_serials, .ref h_a_targets, .int a_latest, .long u.2.1, .int u.2.2, .int a_foundSerial, .int a_rows, .ref h_a_rowBytes, .ref h_a_rowLengths, .int a_places, .ref h_a_placeBytes, .ref h_a_placeLengths, .int a_off, .int a_left, .int a_made]))] → va_S A s.heap H locs → W p l e (headSpec zw_Mod_name ({ frames := 1, cells := 0, slots := 0, locals := 22 })).room s m ([.ref h_a, .long x0, .int x1] : List Value).toArray below meth c H locs 0 0 (MQ below (va_Qv (fun _ : Unit => True) (fun _ t => va_P (dC, dI) zCl [(h_a, .inr (4, [.int u.1, .int a_count, .ref h_a_names, .ref h_a_lengths, .ref h_a_serials, .ref h_a_targets, .int a_latest, .long u.2.1, .int u.2.2, .int a_foundSerial, .int a_rows, .ref h_a_rowBytes, .ref h_a_rowLengths, .int a_places, .ref h_a_placeBytes, .ref h_a_placeLengths, .int a_off, .int a_left, .int a_made]))] t.heap ∧ va_D A [(h_a, .inr (4, [.int u.1, .int a_count, .ref h_a_names, .ref h_a_lengths, .ref h_a_serials, .ref h_a_targets, .int a_latest, .long u.2.1, .int u.2.2, .int a_foundSerial, .int a_rows, .ref h_a_rowBytes, .ref h_a_rowLengths, .int a_places, .ref h_a_placeBytes, .ref h_a_placeLengths, .int a_off, .int a_left, .int a_made]))]) A) ([.ref h_a, .long x0, .int x1] : List Value).toArray s 0 0 A) (F0 m pc ls []) := by
    intro pc ls H locs hd hP9 hD9 hS
    exact W.vret hx hb hr (fun t ht hW => ⟨⟨(), rfl, trivial, by rw [ht]; exact hP9, hD9⟩, hS.F ht⟩) hS.2.2 hd
  generalize (MQ below (va_Qv (fun _ : Unit => True) (fun _ t => va_P (dC, dI) zCl [(h_a, .inr (4, [.int u.1, .int a_count, .ref h_a_names, .ref h_a_lengths, .ref h_a_serials, .ref h_a_targets, .int a_latest, .long u.2.1, .int u.2.2, .int a_foundSerial, .int a_rows, .ref h_a_rowBytes, .ref h_a_rowLengths, .int a_places, .ref h_a_placeBytes, .ref h_a_placeLengths, .int a_off, .int a_left, .int a_made]))] t.heap ∧ va_D A [(h_a, .inr (4, [.int u.1, .int a_count, .ref h_a_names, .ref h_a_lengths, .ref h_a_serials, .ref h_a_targets, .int a_latest, .long u.2.1, .int u.2.2, .int a_foundSerial, .int a_rows, .ref h_a_rowBytes, .ref h_a_rowLengths, .int a_places, .ref h_a_placeBytes, .ref h_a_placeLengths, .int a_off, .int a_left, .int a_made]))]) A) ([.ref h_a, .long x0, .int x1] : List Value).toArray s 0 0 A) = Q at KR ⊢
  have L23 : ∀ (n : Nat) (l1 : Int64) (l3 : Int32) (l4 : Int32) (a_names : Nat → Int64) (a_lengths : Nat → Int32) (a_serials : Nat → Int32) (a_targets : Nat → Int32) (a_rowBytes : Nat → Int64) (a_rowLengths : Nat → Int32) (a_placeBytes : Nat → Int64) (a_placeLengths : Nat → Int32) (a_thrown : Int32) (a_count : Int32) (a_latest : Int32) (a_hand : Int64) (a_handLength : Int32) (a_foundSerial : Int32) (a_rows : Int32) (a_places : Int32) (a_off : Int32) (a_left : Int32) (a_made : Int32) (ls : Array Slot) (H : Heap) (locs : List Loc) (uu : (Int32 × Int32)), lv_has ls 7 [(0, .ref h_a), (1, .long l1), (3, .int l3), (4, .int l4)] → va_P (dC, dI) zCl [(h_a, .inr (4, [.int a_thrown, .int a_count, .ref h_a_names, .ref h_a_lengths, .ref h_a_serials, .ref h_a_targets, .int a_latest, .long a_hand, .int a_handLength, .int a_foundSerial, .int a_rows, .ref h_a_rowBytes, .ref h_a_rowLengths, .int a_places, .ref h_a_placeBytes, .ref h_a_placeLengths, .int a_off, .int a_left, .int a_made]))] H → va_D A [(h_a, .inr (4, [.int a_thrown, .int a_count, .ref h_a_names, .ref h_a_lengths, .ref h_a_serials, .ref h_a_targets, .int a_latest, .long a_hand, .int a_handLength, .int a_foundSerial, .int a_rows, .ref h_a_rowBytes, .ref h_a_rowLengths, .int a_places, .ref h_a_placeBytes, .ref h_a_placeLengths, .int a_off, .int a_left, .int a_made]))] → va_S A s.heap H locs → m_M_name_l23 l1 l3 n l4 a_thrown = some uu → (∀ (ls : Array Slot) (H : Heap) (locs : List Loc), lv_has ls 7 [(0, .ref h_a), (1, .long l1), (3, .int l3), (4, .int uu.1)] → va_P (dC, dI) zCl [(h_a, .inr (4, [.int uu.2, .int a_count, .ref h_a_names, .ref h_a_lengths, .ref h_a_serials, .ref h_a_targets, .int a_latest, .long a_hand, .int a_handLength, .int a_foundSerial, .int a_rows, .ref h_a_rowBytes, .ref h_a_rowLengths, .int a_places, .ref h_a_placeBytes, .ref h_a_placeLengths, .int a_off, .int a_left, .int a_made]))] H → va_D A [(h_a, .inr (4, [.int uu.2, .int a_count, .ref h_a_names, .ref h_a_lengths, .ref h_a_serials, .ref h_a_targets, .int a_latest, .long a_hand, .int a_handLength, .int a_foundSerial, .int a_rows, .ref h_a_rowBytes, .ref h_a_rowLengths, .int a_places, .ref h_a_placeBytes, .ref h_a_placeLengths, .int a_off, .int a_left, .int a_made]))] → va_S A s.heap H locs → W p l e (headSpec zw_Mod_name ({ frames := 1, cells := 0, slots := 0, locals := 22 })).room s m ([.ref h_a, .long x0, .int x1] : List Value).toArray below meth c H locs 0 0 Q (F0 m 80 ls [])) → W p l e (headSpec zw_Mod_name ({ frames := 1, cells := 0, slots := 0, locals := 22 })).room s m ([.ref h_a, .long x0, .int x1] : List Value).toArray below meth c H locs 0 0 Q (F0 m 23 ls []) := by
    intro n
    induction n with
    | zero =>
      intro l1 l3 l4 a_names a_lengths a_serials a_targets a_rowBytes a_rowLengths a_placeBytes a_placeLengths a_thrown a_count a_latest a_hand a_handLength a_foundSerial a_rows a_places a_off a_left a_made ls H locs uu hl hP hD hS hm K
      rw [m_M_name_l23] at hm
      cases hm
    | succ n ih =>
      intro l1 l3 l4 a_names a_lengths a_serials a_targets a_rowBytes a_rowLengths a_placeBytes a_placeLengths a_thrown a_count a_latest a_hand a_handLength a_foundSerial a_rows a_places a_off a_left a_made ls H locs uu hl hP hD hS hm K
      rw [m_M_name_l23] at hm
      refine lv_iload hx hb zd_Mod_name_23 (lv_at hl 3 rfl) ?_
      refine lv_iload_n hx hb zd_Mod_name_25 rfl (lv_at hl 2 rfl) ?_
      refine lv_icmp_ge (tgt := 80) hx hb zd_Mod_name_26 (by decide) (fun hc => ?_) (fun hc => ?_)
      · rw [if_pos hc] at hm
        obtain rfl := Option.some.inj hm
        exact K ls H locs (lv_sub hl [0, 1, 2, 3] rfl) hP hD hS
      · rw [if_neg hc] at hm
        refine lv_aload_n hx hb zd_Mod_name_29 rfl (lv_at hl 0 rfl) ?_
        refine va_get (D := (dC, dI)) (ci := 4) (v := .int a_thrown) (C := zR_Mod) (T := zT_Mod) (N := 19) hx hb hts zu_Mod hown hK hP 0 rfl rfl 0 (by decide) (hts _ wk410) (fun _ h9 => h9) rfl zd_Mod_name_30 ?_
        refine lv_if_ne (tgt := 80) hx hb zd_Mod_name_33 (by decide) (fun hc => ?_) (fun hc => ?_)
        · rw [if_neg hc] at hm
          obtain rfl := Option.some.inj hm
          exact K ls H locs (lv_sub hl [0, 1, 2, 3] rfl) hP hD hS
        · rw [if_pos hc] at hm
          refine lv_lload_n hx hb zd_Mod_name_36 rfl (lv_at hl 1 rfl) ?_
          refine lv_bipush (v := 8) hx hb zd_Mod_name_37 (by decide) ?_
          refine lv_iload hx hb zd_Mod_name_39 (lv_at hl 3 rfl) ?_
          refine lv_imul hx hb zd_Mod_name_41 ?_
          refine lv_lshr (v := (l1 >>> (((8 * l4) : Int32).toInt64 &&& 63))) hx hb zd_Mod_name_42 rfl ?_
          refine lv_ldc2 (v := 255) hx hb hown (hts _ wk412) zd_Mod_name_43 ?_
          refine lv_land hx hb zd_Mod_name_46 ?_
          refine lv_lstore (lv' := [(5, .long (((l1 >>> (((8 * l4) : Int32).toInt64 &&& 63)) &&& 255))), (0, .ref h_a), (1, .long l1), (3, .int l3), (4, .int l4)]) hx hb zd_Mod_name_47 hl (by decide) rfl (fun ls hl => ?_)
          refine lv_aload_n hx hb zd_Mod_name_49 rfl (lv_at hl 1 rfl) ?_
          refine lv_lload hx hb zd_Mod_name_50 (lv_at hl 0 rfl) ?_
          refine lv_lconst (v := 0) hx hb zd_Mod_name_52 (by decide) ?_
          refine W.lcmp hx hb zd_Mod_name_53 ?_
          refine lv_if_eq (tgt := 66) hx hb zd_Mod_name_54 (by decide) (fun hc => ?_) (fun hc => ?_)
          · rw [if_pos hc] at hm
            refine lv_iconst (v := 1) hx hb zd_Mod_name_66 (by decide) ?_
            refine lv_goto (tgt := 71) hx hb zd_Mod_name_67 (by decide) ?_
            refine va_put (D := (dC, dI)) (ci := 4) (v := .int 1) (ty := .int) (C := zR_Mod) (T := zT_Mod) (N := 19) hx hb hts zu_Mod zt_Mod zt_Mod_ok zn_Mod hown hK hP hD hS 0 rfl rfl 0 (by decide) (hts _ wk410) (fun _ h9 => h9) rfl (by decide +kernel) rfl rfl (Nat.le_of_ble_eq_true rfl) zd_Mod_name_71 (fun H locs hP hD hS => ?_)
            have hP : va_P (dC, dI) zCl [(h_a, .inr (4, [.int 1, .int a_count, .ref h_a_names, .ref h_a_lengths, .ref h_a_serials, .ref h_a_targets, .int a_latest, .long a_hand, .int a_handLength, .int a_foundSerial, .int a_rows, .ref h_a_rowBytes, .ref h_a_rowLengths, .int a_places, .ref h_a_placeBytes, .ref h_a_placeLengths, .int a_off, .int a_left, .int a_made]))] H := hP
            have hD : va_D A [(h_a, .inr (4, [.int 1, .int a_count, .ref h_a_names, .ref h_a_lengths, .ref h_a_serials, .ref h_a_targets, .int a_latest, .long a_hand, .int a_handLength, .int a_foundSerial, .int a_rows, .ref h_a_rowBytes, .ref h_a_rowLengths, .int a_places, .ref h_a_placeBytes, .ref h_a_placeLengths, .int a_off, .int a_left, .int a_made]))] := hD
            refine lv_iinc (k := 4) (v := (l4 + 1)) (lv' := [(4, .int ((l4 + 1))), (5, .long (((l1 >>> (((8 * l4) : Int32).toInt64 &&& 63)) &&& 255))), (0, .ref h_a), (1, .long l1), (3, .int l3)]) hx hb zd_Mod_name_74 hl rfl rfl (by decide) rfl (fun ls hl => ?_)
            refine lv_goto (tgt := 23) hx hb zd_Mod_name_77 (by decide) ?_
            exact ih l1 l3 ((l4 + 1)) a_names a_lengths a_serials a_targets a_rowBytes a_rowLengths a_placeBytes a_placeLengths 1 a_count a_latest a_hand a_handLength a_foundSerial a_rows a_places a_off a_left a_made ls H locs uu (lv_sub hl [2, 3, 4, 0] rfl) hP hD hS hm K
          · rw [if_neg hc] at hm
            refine lv_lload hx hb zd_Mod_name_57 (lv_at hl 0 rfl) ?_
            refine lv_ldc2 (v := 47) hx hb hown (hts _ wk413) zd_Mod_name_59 ?_
            refine W.lcmp hx hb zd_Mod_name_62 ?_
            refine lv_if_ne (tgt := 70) hx hb zd_Mod_name_63 (by decide) (fun hc => ?_) (fun hc => ?_)
            · rw [if_neg hc] at hm
              refine lv_iconst (v := 0) hx hb zd_Mod_name_70 (by decide) ?_
              refine va_put (D := (dC, dI)) (ci := 4) (v := .int 0) (ty := .int) (C := zR_Mod) (T := zT_Mod) (N := 19) hx hb hts zu_Mod zt_Mod zt_Mod_ok zn_Mod hown hK hP hD hS 0 rfl rfl 0 (by decide) (hts _ wk410) (fun _ h9 => h9) rfl (by decide +kernel) rfl rfl (Nat.le_of_ble_eq_true rfl) zd_Mod_name_71 (fun H locs hP hD hS => ?_)
              have hP : va_P (dC, dI) zCl [(h_a, .inr (4, [.int 0, .int a_count, .ref h_a_names, .ref h_a_lengths, .ref h_a_serials, .ref h_a_targets, .int a_latest, .long a_hand, .int a_handLength, .int a_foundSerial, .int a_rows, .ref h_a_rowBytes, .ref h_a_rowLengths, .int a_places, .ref h_a_placeBytes, .ref h_a_placeLengths, .int a_off, .int a_left, .int a_made]))] H := hP
              have hD : va_D A [(h_a, .inr (4, [.int 0, .int a_count, .ref h_a_names, .ref h_a_lengths, .ref h_a_serials, .ref h_a_targets, .int a_latest, .long a_hand, .int a_handLength, .int a_foundSerial, .int a_rows, .ref h_a_rowBytes, .ref h_a_rowLengths, .int a_places, .ref h_a_placeBytes, .ref h_a_placeLengths, .int a_off, .int a_left, .int a_made]))] := hD
              refine lv_iinc (k := 4) (v := (l4 + 1)) (lv' := [(4, .int ((l4 + 1))), (5, .long (((l1 >>> (((8 * l4) : Int32).toInt64 &&& 63)) &&& 255))), (0, .ref h_a), (1, .long l1), (3, .int l3)]) hx hb zd_Mod_name_74 hl rfl rfl (by decide) rfl (fun ls hl => ?_)
              refine lv_goto (tgt := 23) hx hb zd_Mod_name_77 (by decide) ?_
              exact ih l1 l3 ((l4 + 1)) a_names a_lengths a_serials a_targets a_rowBytes a_rowLengths a_placeBytes a_placeLengths 0 a_count a_latest a_hand a_handLength a_foundSerial a_rows a_places a_off a_left a_made ls H locs uu (lv_sub hl [2, 3, 4, 0] rfl) hP hD hS hm K
            · rw [if_pos hc] at hm
              refine lv_iconst (v := 1) hx hb zd_Mod_name_66 (by decide) ?_
              refine lv_goto (tgt := 71) hx hb zd_Mod_name_67 (by decide) ?_
              refine va_put (D := (dC, dI)) (ci := 4) (v := .int 1) (ty := .int) (C := zR_Mod) (T := zT_Mod) (N := 19) hx hb hts zu_Mod zt_Mod zt_Mod_ok zn_Mod hown hK hP hD hS 0 rfl rfl 0 (by decide) (hts _ wk410) (fun _ h9 => h9) rfl (by decide +kernel) rfl rfl (Nat.le_of_ble_eq_true rfl) zd_Mod_name_71 (fun H locs hP hD hS => ?_)
              have hP : va_P (dC, dI) zCl [(h_a, .inr (4, [.int 1, .int a_count, .ref h_a_names, .ref h_a_lengths, .ref h_a_serials, .ref h_a_targets, .int a_latest, .long a_hand, .int a_handLength, .int a_foundSerial, .int a_rows, .ref h_a_rowBytes, .ref h_a_rowLengths, .int a_places, .ref h_a_placeBytes, .ref h_a_placeLengths, .int a_off, .int a_left, .int a_made]))] H := hP
              have hD : va_D A [(h_a, .inr (4, [.int 1, .int a_count, .ref h_a_names, .ref h_a_lengths, .ref h_a_serials, .ref h_a_targets, .int a_latest, .long a_hand, .int a_handLength, .int a_foundSerial, .int a_rows, .ref h_a_rowBytes, .ref h_a_rowLengths, .int a_places, .ref h_a_placeBytes, .ref h_a_placeLengths, .int a_off, .int a_left, .int a_made]))] := hD
              refine lv_iinc (k := 4) (v := (l4 + 1)) (lv' := [(4, .int ((l4 + 1))), (5, .long (((l1 >>> (((8 * l4) : Int32).toInt64 &&& 63)) &&& 255))), (0, .ref h_a), (1, .long l1), (3, .int l3)]) hx hb zd_Mod_name_74 hl rfl rfl (by decide) rfl (fun ls hl => ?_)
              refine lv_goto (tgt := 23) hx hb zd_Mod_name_77 (by decide) ?_
              exact ih l1 l3 ((l4 + 1)) a_names a_lengths a_serials a_targets a_rowBytes a_rowLengths a_placeBytes a_placeLengths 1 a_count a_latest a_hand a_handLength a_foundSerial a_rows a_places a_off a_left a_made ls H locs uu (lv_sub hl [2, 3, 4, 0] rfl) hP hD hS hm K
  unfold m_M_name at hm
  refine lv_aload_n hx hb zd_Mod_name_0 rfl (lv_at hl 0 rfl) ?_
  refine lv_iload_n hx hb zd_Mod_name_1 rfl (lv_at hl 2 rfl) ?_
  refine lv_iconst (v := 1) hx hb zd_Mod_name_2 (by decide) ?_
  refine lv_icmp_lt (tgt := 12) hx hb zd_Mod_name_3 (by decide) (fun hc => ?_) (fun hc => ?_)
  · rw [if_pos hc] at hm
    refine lv_iconst (v := 1) hx hb zd_Mod_name_12 (by decide) ?_
    refine lv_goto (tgt := 17) hx hb zd_Mod_name_13 (by decide) ?_
    refine va_put (D := (dC, dI)) (ci := 4) (v := .int 1) (ty := .int) (C := zR_Mod) (T := zT_Mod) (N := 19) hx hb hts zu_Mod zt_Mod zt_Mod_ok zn_Mod hown hK hP hD hS 0 rfl rfl 0 (by decide) (hts _ wk410) (fun _ h9 => h9) rfl (by decide +kernel) rfl rfl (Nat.le_of_ble_eq_true rfl) zd_Mod_name_17 (fun H locs hP hD hS => ?_)
    have hP : va_P (dC, dI) zCl [(h_a, .inr (4, [.int 1, .int a_count, .ref h_a_names, .ref h_a_lengths, .ref h_a_serials, .ref h_a_targets, .int a_latest, .long a_hand, .int a_handLength, .int a_foundSerial, .int a_rows, .ref h_a_rowBytes, .ref h_a_rowLengths, .int a_places, .ref h_a_placeBytes, .ref h_a_placeLengths, .int a_off, .int a_left, .int a_made]))] H := hP
    have hD : va_D A [(h_a, .inr (4, [.int 1, .int a_count, .ref h_a_names, .ref h_a_lengths, .ref h_a_serials, .ref h_a_targets, .int a_latest, .long a_hand, .int a_handLength, .int a_foundSerial, .int a_rows, .ref h_a_rowBytes, .ref h_a_rowLengths, .int a_places, .ref h_a_placeBytes, .ref h_a_placeLengths, .int a_off, .int a_left, .int a_made]))] := hD
    refine lv_iconst (v := 0) hx hb zd_Mod_name_20 (by decide) ?_
    refine lv_istore (lv' := [(4, .int 0), (0, .ref h_a), (1, .long x0), (3, .int x1)]) hx hb zd_Mod_name_21 hl (by decide) rfl (fun ls hl => ?_)
    obtain ⟨u1, hu1, hm⟩ := Option.bind_eq_some_iff.mp hm
    refine L23 100 x0 x1 0 a_names a_lengths a_serials a_targets a_rowBytes a_rowLengths a_placeBytes a_placeLengths 1 a_count a_latest a_hand a_handLength a_foundSerial a_rows a_places a_off a_left a_made ls _ _ u1 (lv_sub hl [1, 2, 3, 0] rfl) hP hD hS hu1 (fun ls H locs hl hP hD hS => ?_)
    refine lv_aload_n hx hb zd_Mod_name_80 rfl (lv_at hl 0 rfl) ?_
    refine va_get (D := (dC, dI)) (ci := 4) (v := .int u1.2) (C := zR_Mod) (T := zT_Mod) (N := 19) hx hb hts zu_Mod hown hK hP 0 rfl rfl 0 (by decide) (hts _ wk410) (fun _ h9 => h9) rfl zd_Mod_name_81 ?_
    refine lv_if_ne (tgt := 101) hx hb zd_Mod_name_84 (by decide) (fun hc => ?_) (fun hc => ?_)
    · rw [if_neg hc] at hm
      obtain rfl := Option.some.inj hm
      exact KR 101 ls _ _ zd_Mod_name_101 hP hD hS
    · rw [if_pos hc] at hm
      refine lv_aload_n hx hb zd_Mod_name_87 rfl (lv_at hl 0 rfl) ?_
      refine lv_lload_n hx hb zd_Mod_name_88 rfl (lv_at hl 1 rfl) ?_
      refine lv_iload_n hx hb zd_Mod_name_89 rfl (lv_at hl 2 rfl) ?_
      obtain ⟨u2, hu2, hm⟩ := Option.bind_eq_some_iff.mp hm
      have hPc := hP.sub (ws' := []) [] rfl
      have hDc := hD.sub (ws' := []) [] (by decide) rfl
      have hFc := va_free (wc := []) hD hS hA [] rfl
      refine va_calll (va_runS (As := [.long x0, .int x1]) (rest := [.ref h_a]) ⟨hx, hb, hml, hown, hts⟩ (c_M_firstOf l dC dI cL cI H.size x0 x1 u2 hu2) (va_cwS 2 hts (zgS wk414 wk415 wk298 wk416) rfl rfl rfl zh_Mod_firstOf.2 ⟨Nat.le_of_ble_eq_true rfl, Nat.le_of_ble_eq_true rfl⟩) ⟨fun a U g mk q => by obtain ⟨q0, q1, qP, qK, qD⟩ := q; exact ⟨q0, q1, qP, va_K.moved (u := U) (U := U.calling g mk a) (Vm.Alike.refl U.vm) qK, qD⟩, fun U hU hW => ⟨rfl, by rw [hU], by rw [hU]; exact hPc, va_K.moved hW.alike hK, hDc.weaken (fun _ _ _ _ => trivial)⟩⟩ rfl rfl hl.1 rfl (lv_room (Nat.le_of_ble_eq_true rfl)) zd_Mod_name_90 ⟨Nat.le_of_ble_eq_true rfl, Nat.le_of_ble_eq_true rfl⟩) hS (fun q _ h => hFc q h) hFc (fun r1 _ t H1 locs ht hvm hw hB hz1 hk1 hS => ?_)
      subst hw
      obtain ⟨hP1, hD1⟩ := hB
      rw [ht] at hP1
      obtain ⟨hP, hD⟩ := va_join (wr := [(h_a, .inr (4, [.int u1.2, .int a_count, .ref h_a_names, .ref h_a_lengths, .ref h_a_serials, .ref h_a_targets, .int a_latest, .long a_hand, .int a_handLength, .int a_foundSerial, .int a_rows, .ref h_a_rowBytes, .ref h_a_rowLengths, .int a_places, .ref h_a_placeBytes, .ref h_a_placeLengths, .int a_off, .int a_left, .int a_made]))]) (w1 := []) hP hD [] [0] rfl rfl (by decide) (by decide) hk1 hFc hP1 hD1
      generalize H1 = H at hP hS ⊢
      have hP : va_P (dC, dI) zCl [(h_a, .inr (4, [.int u1.2, .int a_count, .ref h_a_names, .ref h_a_lengths, .ref h_a_serials, .ref h_a_targets, .int a_latest, .long a_hand, .int a_handLength, .int a_foundSerial, .int a_rows, .ref h_a_rowBytes, .ref h_a_rowLengths, .int a_places, .ref h_a_placeBytes, .ref h_a_placeLengths, .int a_off, .int a_left, .int a_made]))] H := hP.sub [0] rfl
      have hD : va_D A [(h_a, .inr (4, [.int u1.2, .int a_count, .ref h_a_names, .ref h_a_lengths, .ref h_a_serials, .ref h_a_targets, .int a_latest, .long a_hand, .int a_handLength, .int a_foundSerial, .int a_rows, .ref h_a_rowBytes, .ref h_a_rowLengths, .int a_places, .ref h_a_placeBytes, .ref h_a_placeLengths, .int a_off, .int a_left, .int a_made]))] := hD.sub [0] (by decide) rfl
      refine va_put (D := (dC, dI)) (ci := 4) (v := .long u2) (ty := .long) (C := zR_Mod) (T := zT_Mod) (N := 19) hx hb hts zu_Mod zt_Mod zt_Mod_ok zn_Mod hown hK hP hD hS 0 rfl rfl 7 (by decide) (hts _ wk401) (fun _ h9 => h9) rfl (by decide +kernel) rfl rfl (Nat.le_of_ble_eq_true rfl) zd_Mod_name_93 (fun H locs hP hD hS => ?_)
      have hP : va_P (dC, dI) zCl [(h_a, .inr (4, [.int u1.2, .int a_count, .ref h_a_names, .ref h_a_lengths, .ref h_a_serials, .ref h_a_targets, .int a_latest, .long u2, .int a_handLength, .int a_foundSerial, .int a_rows, .ref h_a_rowBytes, .ref h_a_rowLengths, .int a_places, .ref h_a_placeBytes, .ref h_a_placeLengths, .int a_off, .int a_left, .int a_made]))] H := hP
      have hD : va_D A [(h_a, .inr (4, [.int u1.2, .int a_count, .ref h_a_names, .ref h_a_lengths, .ref h_a_serials, .ref h_a_targets, .int a_latest, .long u2, .int a_handLength, .int a_foundSerial, .int a_rows, .ref h_a_rowBytes, .ref h_a_rowLengths, .int a_places, .ref h_a_placeBytes, .ref h_a_placeLengths, .int a_off, .int a_left, .int a_made]))] := hD
      refine lv_aload_n hx hb zd_Mod_name_96 rfl (lv_at hl 0 rfl) ?_
      refine lv_iload_n hx hb zd_Mod_name_97 rfl (lv_at hl 2 rfl) ?_
      refine va_put (D := (dC, dI)) (ci := 4) (v := .int x1) (ty := .int) (C := zR_Mod) (T := zT_Mod) (N := 19) hx hb hts zu_Mod zt_Mod zt_Mod_ok zn_Mod hown hK hP hD hS 0 rfl rfl 8 (by decide) (hts _ wk402) (fun _ h9 => h9) rfl (by decide +kernel) rfl rfl (Nat.le_of_ble_eq_true rfl) zd_Mod_name_98 (fun H locs hP hD hS => ?_)
      have hP : va_P (dC, dI) zCl [(h_a, .inr (4, [.int u1.2, .int a_count, .ref h_a_names, .ref h_a_lengths, .ref h_a_serials, .ref h_a_targets, .int a_latest, .long u2, .int x1, .int a_foundSerial, .int a_rows, .ref h_a_rowBytes, .ref h_a_rowLengths, .int a_places, .ref h_a_placeBytes, .ref h_a_placeLengths, .int a_off, .int a_left, .int a_made]))] H := hP
      have hD : va_D A [(h_a, .inr (4, [.int u1.2, .int a_count, .ref h_a_names, .ref h_a_lengths, .ref h_a_serials, .ref h_a_targets, .int a_latest, .long u2, .int x1, .int a_foundSerial, .int a_rows, .ref h_a_rowBytes, .ref h_a_rowLengths, .int a_places, .ref h_a_placeBytes, .ref h_a_placeLengths, .int a_off, .int a_left, .int a_made]))] := hD
      obtain rfl := Option.some.inj hm
      exact KR 101 ls _ _ zd_Mod_name_101 hP hD hS
  · rw [if_neg hc] at hm
    refine lv_iload_n hx hb zd_Mod_name_6 rfl (lv_at hl 2 rfl) ?_
    refine lv_bipush (v := 7) hx hb zd_Mod_name_7 (by decide) ?_
    refine lv_icmp_le (tgt := 16) hx hb zd_Mod_name_9 (by decide) (fun hc => ?_) (fun hc => ?_)
    · rw [if_pos hc] at hm
      refine lv_iconst (v := 0) hx hb zd_Mod_name_16 (by decide) ?_
      refine va_put (D := (dC, dI)) (ci := 4) (v := .int 0) (ty := .int) (C := zR_Mod) (T := zT_Mod) (N := 19) hx hb hts zu_Mod zt_Mod zt_Mod_ok zn_Mod hown hK hP hD hS 0 rfl rfl 0 (by decide) (hts _ wk410) (fun _ h9 => h9) rfl (by decide +kernel) rfl rfl (Nat.le_of_ble_eq_true rfl) zd_Mod_name_17 (fun H locs hP hD hS => ?_)
      have hP : va_P (dC, dI) zCl [(h_a, .inr (4, [.int 0, .int a_count, .ref h_a_names, .ref h_a_lengths, .ref h_a_serials, .ref h_a_targets, .int a_latest, .long a_hand, .int a_handLength, .int a_foundSerial, .int a_rows, .ref h_a_rowBytes, .ref h_a_rowLengths, .int a_places, .ref h_a_placeBytes, .ref h_a_placeLengths, .int a_off, .int a_left, .int a_made]))] H := hP
      have hD : va_D A [(h_a, .inr (4, [.int 0, .int a_count, .ref h_a_names, .ref h_a_lengths, .ref h_a_serials, .ref h_a_targets, .int a_latest, .long a_hand, .int a_handLength, .int a_foundSerial, .int a_rows, .ref h_a_rowBytes, .ref h_a_rowLengths, .int a_places, .ref h_a_placeBytes, .ref h_a_placeLengths, .int a_off, .int a_left, .int a_made]))] := hD
      refine lv_iconst (v := 0) hx hb zd_Mod_name_20 (by decide) ?_
      refine lv_istore (lv' := [(4, .int 0), (0, .ref h_a), (1, .long x0), (3, .int x1)]) hx hb zd_Mod_name_21 hl (by decide) rfl (fun ls hl => ?_)
      obtain ⟨u3, hu3, hm⟩ := Option.bind_eq_some_iff.mp hm
      refine L23 100 x0 x1 0 a_names a_lengths a_serials a_targets a_rowBytes a_rowLengths a_placeBytes a_placeLengths 0 a_count a_latest a_hand a_handLength a_foundSerial a_rows a_places a_off a_left a_made ls _ _ u3 (lv_sub hl [1, 2, 3, 0] rfl) hP hD hS hu3 (fun ls H locs hl hP hD hS => ?_)
      refine lv_aload_n hx hb zd_Mod_name_80 rfl (lv_at hl 0 rfl) ?_
      refine va_get (D := (dC, dI)) (ci := 4) (v := .int u3.2) (C := zR_Mod) (T := zT_Mod) (N := 19) hx hb hts zu_Mod hown hK hP 0 rfl rfl 0 (by decide) (hts _ wk410) (fun _ h9 => h9) rfl zd_Mod_name_81 ?_
      refine lv_if_ne (tgt := 101) hx hb zd_Mod_name_84 (by decide) (fun hc => ?_) (fun hc => ?_)
      · rw [if_neg hc] at hm
        obtain rfl := Option.some.inj hm
        exact KR 101 ls _ _ zd_Mod_name_101 hP hD hS
      · rw [if_pos hc] at hm
        refine lv_aload_n hx hb zd_Mod_name_87 rfl (lv_at hl 0 rfl) ?_
        refine lv_lload_n hx hb zd_Mod_name_88 rfl (lv_at hl 1 rfl) ?_
        refine lv_iload_n hx hb zd_Mod_name_89 rfl (lv_at hl 2 rfl) ?_
        obtain ⟨u4, hu4, hm⟩ := Option.bind_eq_some_iff.mp hm
        have hPc := hP.sub (ws' := []) [] rfl
        have hDc := hD.sub (ws' := []) [] (by decide) rfl
        have hFc := va_free (wc := []) hD hS hA [] rfl
        refine va_calll (va_runS (As := [.long x0, .int x1]) (rest := [.ref h_a]) ⟨hx, hb, hml, hown, hts⟩ (c_M_firstOf l dC dI cL cI H.size x0 x1 u4 hu4) (va_cwS 2 hts (zgS wk414 wk415 wk298 wk416) rfl rfl rfl zh_Mod_firstOf.2 ⟨Nat.le_of_ble_eq_true rfl, Nat.le_of_ble_eq_true rfl⟩) ⟨fun a U g mk q => by obtain ⟨q0, q1, qP, qK, qD⟩ := q; exact ⟨q0, q1, qP, va_K.moved (u := U) (U := U.calling g mk a) (Vm.Alike.refl U.vm) qK, qD⟩, fun U hU hW => ⟨rfl, by rw [hU], by rw [hU]; exact hPc, va_K.moved hW.alike hK, hDc.weaken (fun _ _ _ _ => trivial)⟩⟩ rfl rfl hl.1 rfl (lv_room (Nat.le_of_ble_eq_true rfl)) zd_Mod_name_90 ⟨Nat.le_of_ble_eq_true rfl, Nat.le_of_ble_eq_true rfl⟩) hS (fun q _ h => hFc q h) hFc (fun r1 _ t H1 locs ht hvm hw hB hz1 hk1 hS => ?_)
        subst hw
        obtain ⟨hP1, hD1⟩ := hB
        rw [ht] at hP1
        obtain ⟨hP, hD⟩ := va_join (wr := [(h_a, .inr (4, [.int u3.2, .int a_count, .ref h_a_names, .ref h_a_lengths, .ref h_a_serials, .ref h_a_targets, .int a_latest, .long a_hand, .int a_handLength, .int a_foundSerial, .int a_rows, .ref h_a_rowBytes, .ref h_a_rowLengths, .int a_places, .ref h_a_placeBytes, .ref h_a_placeLengths, .int a_off, .int a_left, .int a_made]))]) (w1 := []) hP hD [] [0] rfl rfl (by decide) (by decide) hk1 hFc hP1 hD1
        generalize H1 = H at hP hS ⊢
        have hP : va_P (dC, dI) zCl [(h_a, .inr (4, [.int u3.2, .int a_count, .ref h_a_names, .ref h_a_lengths, .ref h_a_serials, .ref h_a_targets, .int a_latest, .long a_hand, .int a_handLength, .int a_foundSerial, .int a_rows, .ref h_a_rowBytes, .ref h_a_rowLengths, .int a_places, .ref h_a_placeBytes, .ref h_a_placeLengths, .int a_off, .int a_left, .int a_made]))] H := hP.sub [0] rfl
        have hD : va_D A [(h_a, .inr (4, [.int u3.2, .int a_count, .ref h_a_names, .ref h_a_lengths, .ref h_a_serials, .ref h_a_targets, .int a_latest, .long a_hand, .int a_handLength, .int a_foundSerial, .int a_rows, .ref h_a_rowBytes, .ref h_a_rowLengths, .int a_places, .ref h_a_placeBytes, .ref h_a_placeLengths, .int a_off, .int a_left, .int a_made]))] := hD.sub [0] (by decide) rfl
        refine va_put (D := (dC, dI)) (ci := 4) (v := .long u4) (ty := .long) (C := zR_Mod) (T := zT_Mod) (N := 19) hx hb hts zu_Mod zt_Mod zt_Mod_ok zn_Mod hown hK hP hD hS 0 rfl rfl 7 (by decide) (hts _ wk401) (fun _ h9 => h9) rfl (by decide +kernel) rfl rfl (Nat.le_of_ble_eq_true rfl) zd_Mod_name_93 (fun H locs hP hD hS => ?_)
        have hP : va_P (dC, dI) zCl [(h_a, .inr (4, [.int u3.2, .int a_count, .ref h_a_names, .ref h_a_lengths, .ref h_a_serials, .ref h_a_targets, .int a_latest, .long u4, .int a_handLength, .int a_foundSerial, .int a_rows, .ref h_a_rowBytes, .ref h_a_rowLengths, .int a_places, .ref h_a_placeBytes, .ref h_a_placeLengths, .int a_off, .int a_left, .int a_made]))] H := hP
        have hD : va_D A [(h_a, .inr (4, [.int u3.2, .int a_count, .ref h_a_names, .ref h_a_lengths, .ref h_a_serials, .ref h_a_targets, .int a_latest, .long u4, .int a_handLength, .int a_foundSerial, .int a_rows, .ref h_a_rowBytes, .ref h_a_rowLengths, .int a_places, .ref h_a_placeBytes, .ref h_a_placeLengths, .int a_off, .int a_left, .int a_made]))] := hD
        refine lv_aload_n hx hb zd_Mod_name_96 rfl (lv_at hl 0 rfl) ?_
        refine lv_iload_n hx hb zd_Mod_name_97 rfl (lv_at hl 2 rfl) ?_
        refine va_put (D := (dC, dI)) (ci := 4) (v := .int x1) (ty := .int) (C := zR_Mod) (T := zT_Mod) (N := 19) hx hb hts zu_Mod zt_Mod zt_Mod_ok zn_Mod hown hK hP hD hS 0 rfl rfl 8 (by decide) (hts _ wk402) (fun _ h9 => h9) rfl (by decide +kernel) rfl rfl (Nat.le_of_ble_eq_true rfl) zd_Mod_name_98 (fun H locs hP hD hS => ?_)
        have hP : va_P (dC, dI) zCl [(h_a, .inr (4, [.int u3.2, .int a_count, .ref h_a_names, .ref h_a_lengths, .ref h_a_serials, .ref h_a_targets, .int a_latest, .long u4, .int x1, .int a_foundSerial, .int a_rows, .ref h_a_rowBytes, .ref h_a_rowLengths, .int a_places, .ref h_a_placeBytes, .ref h_a_placeLengths, .int a_off, .int a_left, .int a_made]))] H := hP
        have hD : va_D A [(h_a, .inr (4, [.int u3.2, .int a_count, .ref h_a_names, .ref h_a_lengths, .ref h_a_serials, .ref h_a_targets, .int a_latest, .long u4, .int x1, .int a_foundSerial, .int a_rows, .ref h_a_rowBytes, .ref h_a_rowLengths, .int a_places, .ref h_a_placeBytes, .ref h_a_placeLengths, .int a_off, .int a_left, .int a_made]))] := hD
        obtain rfl := Option.some.inj hm
        exact KR 101 ls _ _ zd_Mod_name_101 hP hD hS
    · rw [if_neg hc] at hm
      refine lv_iconst (v := 1) hx hb zd_Mod_name_12 (by decide) ?_
      refine lv_goto (tgt := 17) hx hb zd_Mod_name_13 (by decide) ?_
      refine va_put (D := (dC, dI)) (ci := 4) (v := .int 1) (ty := .int) (C := zR_Mod) (T := zT_Mod) (N := 19) hx hb hts zu_Mod zt_Mod zt_Mod_ok zn_Mod hown hK hP hD hS 0 rfl rfl 0 (by decide) (hts _ wk410) (fun _ h9 => h9) rfl (by decide +kernel) rfl rfl (Nat.le_of_ble_eq_true rfl) zd_Mod_name_17 (fun H locs hP hD hS => ?_)
      have hP : va_P (dC, dI) zCl [(h_a, .inr (4, [.int 1, .int a_count, .ref h_a_names, .ref h_a_lengths, .ref h_a_serials, .ref h_a_targets, .int a_latest, .long a_hand, .int a_handLength, .int a_foundSerial, .int a_rows, .ref h_a_rowBytes, .ref h_a_rowLengths, .int a_places, .ref h_a_placeBytes, .ref h_a_placeLengths, .int a_off, .int a_left, .int a_made]))] H := hP
      have hD : va_D A [(h_a, .inr (4, [.int 1, .int a_count, .ref h_a_names, .ref h_a_lengths, .ref h_a_serials, .ref h_a_targets, .int a_latest, .long a_hand, .int a_handLength, .int a_foundSerial, .int a_rows, .ref h_a_rowBytes, .ref h_a_rowLengths, .int a_places, .ref h_a_placeBytes, .ref h_a_placeLengths, .int a_off, .int a_left, .int a_made]))] := hD
      refine lv_iconst (v := 0) hx hb zd_Mod_name_20 (by decide) ?_
      refine lv_istore (lv' := [(4, .int 0), (0, .ref h_a), (1, .long x0), (3, .int x1)]) hx hb zd_Mod_name_21 hl (by decide) rfl (fun ls hl => ?_)
      obtain ⟨u5, hu5, hm⟩ := Option.bind_eq_some_iff.mp hm
      refine L23 100 x0 x1 0 a_names a_lengths a_serials a_targets a_rowBytes a_rowLengths a_placeBytes a_placeLengths 1 a_count a_latest a_hand a_handLength a_foundSerial a_rows a_places a_off a_left a_made ls _ _ u5 (lv_sub hl [1, 2, 3, 0] rfl) hP hD hS hu5 (fun ls H locs hl hP hD hS => ?_)
      refine lv_aload_n hx hb zd_Mod_name_80 rfl (lv_at hl 0 rfl) ?_
      refine va_get (D := (dC, dI)) (ci := 4) (v := .int u5.2) (C := zR_Mod) (T := zT_Mod) (N := 19) hx hb hts zu_Mod hown hK hP 0 rfl rfl 0 (by decide) (hts _ wk410) (fun _ h9 => h9) rfl zd_Mod_name_81 ?_
      refine lv_if_ne (tgt := 101) hx hb zd_Mod_name_84 (by decide) (fun hc => ?_) (fun hc => ?_)
      · rw [if_neg hc] at hm
        obtain rfl := Option.some.inj hm
        exact KR 101 ls _ _ zd_Mod_name_101 hP hD hS
      · rw [if_pos hc] at hm
        refine lv_aload_n hx hb zd_Mod_name_87 rfl (lv_at hl 0 rfl) ?_
        refine lv_lload_n hx hb zd_Mod_name_88 rfl (lv_at hl 1 rfl) ?_
        refine lv_iload_n hx hb zd_Mod_name_89 rfl (lv_at hl 2 rfl) ?_
        obtain ⟨u6, hu6, hm⟩ := Option.bind_eq_some_iff.mp hm
        have hPc := hP.sub (ws' := []) [] rfl
        have hDc := hD.sub (ws' := []) [] (by decide) rfl
        have hFc := va_free (wc := []) hD hS hA [] rfl
        refine va_calll (va_runS (As := [.long x0, .int x1]) (rest := [.ref h_a]) ⟨hx, hb, hml, hown, hts⟩ (c_M_firstOf l dC dI cL cI H.size x0 x1 u6 hu6) (va_cwS 2 hts (zgS wk414 wk415 wk298 wk416) rfl rfl rfl zh_Mod_firstOf.2 ⟨Nat.le_of_ble_eq_true rfl, Nat.le_of_ble_eq_true rfl⟩) ⟨fun a U g mk q => by obtain ⟨q0, q1, qP, qK, qD⟩ := q; exact ⟨q0, q1, qP, va_K.moved (u := U) (U := U.calling g mk a) (Vm.Alike.refl U.vm) qK, qD⟩, fun U hU hW => ⟨rfl, by rw [hU], by rw [hU]; exact hPc, va_K.moved hW.alike hK, hDc.weaken (fun _ _ _ _ => trivial)⟩⟩ rfl rfl hl.1 rfl (lv_room (Nat.le_of_ble_eq_true rfl)) zd_Mod_name_90 ⟨Nat.le_of_ble_eq_true rfl, Nat.le_of_ble_eq_true rfl⟩) hS (fun q _ h => hFc q h) hFc (fun r1 _ t H1 locs ht hvm hw hB hz1 hk1 hS => ?_)
        subst hw
        obtain ⟨hP1, hD1⟩ := hB
        rw [ht] at hP1
        obtain ⟨hP, hD⟩ := va_join (wr := [(h_a, .inr (4, [.int u5.2, .int a_count, .ref h_a_names, .ref h_a_lengths, .ref h_a_serials, .ref h_a_targets, .int a_latest, .long a_hand, .int a_handLength, .int a_foundSerial, .int a_rows, .ref h_a_rowBytes, .ref h_a_rowLengths, .int a_places, .ref h_a_placeBytes, .ref h_a_placeLengths, .int a_off, .int a_left, .int a_made]))]) (w1 := []) hP hD [] [0] rfl rfl (by decide) (by decide) hk1 hFc hP1 hD1
        generalize H1 = H at hP hS ⊢
        have hP : va_P (dC, dI) zCl [(h_a, .inr (4, [.int u5.2, .int a_count, .ref h_a_names, .ref h_a_lengths, .ref h_a_serials, .ref h_a_targets, .int a_latest, .long a_hand, .int a_handLength, .int a_foundSerial, .int a_rows, .ref h_a_rowBytes, .ref h_a_rowLengths, .int a_places, .ref h_a_placeBytes, .ref h_a_placeLengths, .int a_off, .int a_left, .int a_made]))] H := hP.sub [0] rfl
        have hD : va_D A [(h_a, .inr (4, [.int u5.2, .int a_count, .ref h_a_names, .ref h_a_lengths, .ref h_a_serials, .ref h_a_targets, .int a_latest, .long a_hand, .int a_handLength, .int a_foundSerial, .int a_rows, .ref h_a_rowBytes, .ref h_a_rowLengths, .int a_places, .ref h_a_placeBytes, .ref h_a_placeLengths, .int a_off, .int a_left, .int a_made]))] := hD.sub [0] (by decide) rfl
        refine va_put (D := (dC, dI)) (ci := 4) (v := .long u6) (ty := .long) (C := zR_Mod) (T := zT_Mod) (N := 19) hx hb hts zu_Mod zt_Mod zt_Mod_ok zn_Mod hown hK hP hD hS 0 rfl rfl 7 (by decide) (hts _ wk401) (fun _ h9 => h9) rfl (by decide +kernel) rfl rfl (Nat.le_of_ble_eq_true rfl) zd_Mod_name_93 (fun H locs hP hD hS => ?_)
        have hP : va_P (dC, dI) zCl [(h_a, .inr (4, [.int u5.2, .int a_count, .ref h_a_names, .ref h_a_lengths, .ref h_a_serials, .ref h_a_targets, .int a_latest, .long u6, .int a_handLength, .int a_foundSerial, .int a_rows, .ref h_a_rowBytes, .ref h_a_rowLengths, .int a_places, .ref h_a_placeBytes, .ref h_a_placeLengths, .int a_off, .int a_left, .int a_made]))] H := hP
        have hD : va_D A [(h_a, .inr (4, [.int u5.2, .int a_count, .ref h_a_names, .ref h_a_lengths, .ref h_a_serials, .ref h_a_targets, .int a_latest, .long u6, .int a_handLength, .int a_foundSerial, .int a_rows, .ref h_a_rowBytes, .ref h_a_rowLengths, .int a_places, .ref h_a_placeBytes, .ref h_a_placeLengths, .int a_off, .int a_left, .int a_made]))] := hD
        refine lv_aload_n hx hb zd_Mod_name_96 rfl (lv_at hl 0 rfl) ?_
        refine lv_iload_n hx hb zd_Mod_name_97 rfl (lv_at hl 2 rfl) ?_
        refine va_put (D := (dC, dI)) (ci := 4) (v := .int x1) (ty := .int) (C := zR_Mod) (T := zT_Mod) (N := 19) hx hb hts zu_Mod zt_Mod zt_Mod_ok zn_Mod hown hK hP hD hS 0 rfl rfl 8 (by decide) (hts _ wk402) (fun _ h9 => h9) rfl (by decide +kernel) rfl rfl (Nat.le_of_ble_eq_true rfl) zd_Mod_name_98 (fun H locs hP hD hS => ?_)
        have hP : va_P (dC, dI) zCl [(h_a, .inr (4, [.int u5.2, .int a_count, .ref h_a_names, .ref h_a_lengths, .ref h_a_serials, .ref h_a_targets, .int a_latest, .long u6, .int x1, .int a_foundSerial, .int a_rows, .ref h_a_rowBytes, .ref h_a_rowLengths, .int a_places, .ref h_a_placeBytes, .ref h_a_placeLengths, .int a_off, .int a_left, .int a_made]))] H := hP
        have hD : va_D A [(h_a, .inr (4, [.int u5.2, .int a_count, .ref h_a_names, .ref h_a_lengths, .ref h_a_serials, .ref h_a_targets, .int a_latest, .long u6, .int x1, .int a_foundSerial, .int a_rows, .ref h_a_rowBytes, .ref h_a_rowLengths, .int a_places, .ref h_a_placeBytes, .ref h_a_placeLengths, .int a_off, .int a_left, .int a_made]))] := hD
        obtain rfl := Option.some.inj hm
        exact KR 101 ls _ _ zd_Mod_name_101 hP hD hS
set_option maxHeartbeats 4000000 in
set_option maxRecDepth 100000 in
theorem c_M_begins (l : Launch) (dC : Nat → ClassId) (dI : Nat → Nat → Nat) (cL cI : ClassId) (sz : Nat) (x0 : Int64) (x1 : Int32) (x2 : Int64) (x3 : Int32) (u : Int32) (hm : m_M_begins x0 x1 x2 x3 = some u) : Met l zy_Mod_begins zw_Mod_begins ({ frames := 1, cells := 0, slots := 0, locals := 22 }) (va_Pc [.long x0, .int x1, .long x2, .int x3] (fun U => U.heap.size = sz ∧ va_P (dC, dI) zCl [] U.heap ∧ va_K (dC, dI) zCl [(cL, .long), (cI, .int)] U ∧ va_D (fun _ => True) [])) (va_Qi (fun (r : Int32) (_ : Unit) => u = r) (fun _ t => va_P (dC, dI) zCl [] t.heap ∧ va_D (va_A [] sz) []) (va_A [] sz)) 0 0 (va_A [] sz) := by
  refine Met.ofW (cc := zc_Mod_begins) (maxL := 6) (ret := (some .boolean)) (by decide) rfl ?_
  intro p e s m args below meth c s₁ B hml hv
  obtain ⟨rfl, hsz, hP, hK, hD0⟩ := hv
  have hx := B.exec
  have hb := B.bytes
  have hr := B.returns
  have hts0 := atoms_spec (ws := zw_Mod_begins) B.pre
  have hts : ∀ w ∈ WSg, w.before _ s = true := fun w h => hts0 w (List.mem_cons_of_mem _ h)
  clear hts0
  have hown : s.vm.findClass zR_Mod = some m.cls := findClass_of_methodNamed B.named
  have hlocks := B.notSynchronized
  subst hsz
  have hD := hD0.self (sz := s.heap.size)
  generalize hAe : va_A [] s.heap.size = A at hD ⊢
  have hA : ∀ q : Nat, s.heap.size ≤ q → A q := fun q h => by rw [← hAe]; exact Or.inr h
  have hS : va_S A s.heap s.heap [] := va_S.rf
  have hP : va_P (dC, dI) zCl [] s.heap := hP
  have hl := lv_entry ([.long x0, .int x1, .long x2, .int x3]) (n := 6) (Nat.le_of_ble_eq_true rfl)
  rw [lg_entry_eq]
  generalize (lg_sl ([.long x0, .int x1, .long x2, .int x3]) ++ List.replicate (6 - (lg_sl ([.long x0, .int x1, .long x2, .int x3])).length) Slot.unset).toArray = ls at hl ⊢
  have hl : lv_has ls 6 [(0, .long x0), (2, .int x1), (3, .long x2), (5, .int x3)] := hl
  have KR : ∀ (pc : Nat) (ls : Array Slot) (H : Heap) (locs : List Loc), decode zc_Mod_begins pc = .ok (.ireturn, 1) → narrow .boolean (.int u) = .int u → va_P (dC, dI) zCl [] H → va_D A [] → va_S A s.heap H locs → W p l e (headSpec zw_Mod_begins ({ frames := 1, cells := 0, slots := 0, locals := 22 })).room s m ([.long x0, .int x1, .long x2, .int x3] : List Value).toArray below meth c H locs 0 0 (MQ below (va_Qi (fun (r : Int32) (_ : Unit) => u = r) (fun _ t => va_P (dC, dI) zCl [] t.heap ∧ va_D A []) A) ([.long x0, .int x1, .long x2, .int x3] : List Value).toArray s 0 0 A) (F0 m pc ls [.int u]) := by
    intro pc ls H locs hd hz hP9 hD9 hS
    exact W.zret (v := u) (ty := .boolean) hx hb hr hz (fun t ht hW => ⟨⟨u, (), rfl, rfl, by rw [ht]; exact hP9, hD9⟩, hS.F ht⟩) hS.2.2 hd
  generalize (MQ below (va_Qi (fun (r : Int32) (_ : Unit) => u = r) (fun _ t => va_P (dC, dI) zCl [] t.heap ∧ va_D A []) A) ([.long x0, .int x1, .long x2, .int x3] : List Value).toArray s 0 0 A) = Q at KR ⊢
  unfold m_M_begins at hm
  refine lv_iload_n hx hb zd_Mod_begins_0 rfl (lv_at hl 1 rfl) ?_
  refine lv_iload hx hb zd_Mod_begins_1 (lv_at hl 3 rfl) ?_
  refine lv_icmp_gt (tgt := 20) hx hb zd_Mod_begins_3 (by decide) (fun hc => ?_) (fun hc => ?_)
  · rw [if_pos hc] at hm
    refine lv_iconst (v := 0) hx hb zd_Mod_begins_20 (by decide) ?_
    obtain rfl := Option.some.inj hm
    exact KR 21 ls _ _ zd_Mod_begins_21 rfl hP hD hS
  · rw [if_neg hc] at hm
    refine lv_lload_n hx hb zd_Mod_begins_6 rfl (lv_at hl 0 rfl) ?_
    refine lv_lload_n hx hb zd_Mod_begins_7 rfl (lv_at hl 2 rfl) ?_
    refine lv_iload_n hx hb zd_Mod_begins_8 rfl (lv_at hl 1 rfl) ?_
    obtain ⟨u1, hu1, hm⟩ := Option.bind_eq_some_iff.mp hm
    have hPc := hP
    have hDc := hD
    have hFc := va_free (wc := []) hD hS hA [] rfl
    refine va_calll (va_runS (As := [.long x2, .int x1]) (rest := [.long x0]) ⟨hx, hb, hml, hown, hts⟩ (c_M_firstOf l dC dI cL cI s.heap.size x2 x1 u1 hu1) (va_cwS 2 hts (zgS wk414 wk415 wk298 wk416) rfl rfl rfl zh_Mod_firstOf.2 ⟨Nat.le_of_ble_eq_true rfl, Nat.le_of_ble_eq_true rfl⟩) ⟨fun a U g mk q => by obtain ⟨q0, q1, qP, qK, qD⟩ := q; exact ⟨q0, q1, qP, va_K.moved (u := U) (U := U.calling g mk a) (Vm.Alike.refl U.vm) qK, qD⟩, fun U hU hW => ⟨rfl, by rw [hU], by rw [hU]; exact hPc, va_K.moved hW.alike hK, hDc.weaken (fun _ _ _ _ => trivial)⟩⟩ rfl rfl hl.1 rfl (lv_room (Nat.le_of_ble_eq_true rfl)) zd_Mod_begins_9 ⟨Nat.le_of_ble_eq_true rfl, Nat.le_of_ble_eq_true rfl⟩) hS (fun q _ h => hFc q h) hFc (fun r1 _ t H1 locs ht hvm hw hB hz1 hk1 hS => ?_)
    subst hw
    obtain ⟨hP1, hD1⟩ := hB
    rw [ht] at hP1
    have hP := hP1
    have hD := hD1.weaken (fun _ q _ h => hFc q.1 h)
    generalize H1 = H at hP hS ⊢
    refine W.lcmp hx hb zd_Mod_begins_12 ?_
    refine lv_if_ne (tgt := 20) hx hb zd_Mod_begins_13 (by decide) (fun hc => ?_) (fun hc => ?_)
    · rw [if_neg hc] at hm
      refine lv_iconst (v := 0) hx hb zd_Mod_begins_20 (by decide) ?_
      obtain rfl := Option.some.inj hm
      exact KR 21 ls _ _ zd_Mod_begins_21 rfl hP hD hS
    · rw [if_pos hc] at hm
      refine lv_iconst (v := 1) hx hb zd_Mod_begins_16 (by decide) ?_
      refine lv_goto (tgt := 21) hx hb zd_Mod_begins_17 (by decide) ?_
      obtain rfl := Option.some.inj hm
      exact KR 21 ls _ _ zd_Mod_begins_21 rfl hP hD hS
set_option maxHeartbeats 4000000 in
set_option maxRecDepth 100000 in
theorem c_M_common (l : Launch) (dC : Nat → ClassId) (dI : Nat → Nat → Nat) (cL cI : ClassId) (sz : Nat) (x0 : Int64) (x1 : Int32) (x2 : Int64) (x3 : Int32) (u : Int32) (hm : m_M_common x0 x1 x2 x3 = some u) : Met l zy_Mod_common zw_Mod_common ({ frames := 0, cells := 0, slots := 0, locals := 0 }) (va_Pc [.long x0, .int x1, .long x2, .int x3] (fun U => U.heap.size = sz ∧ va_P (dC, dI) zCl [] U.heap ∧ va_K (dC, dI) zCl [(cL, .long), (cI, .int)] U ∧ va_D (fun _ => True) [])) (va_Qi (fun (r : Int32) (_ : Unit) => u = r) (fun _ t => va_P (dC, dI) zCl [] t.heap ∧ va_D (va_A [] sz) []) (va_A [] sz)) 0 0 (va_A [] sz) := by
  refine Met.ofW (cc := zc_Mod_common) (maxL := 7) (ret := (some .int)) (by decide) rfl ?_
  intro p e s m args below meth c s₁ B hml hv
  obtain ⟨rfl, hsz, hP, hK, hD0⟩ := hv
  have hx := B.exec
  have hb := B.bytes
  have hr := B.returns
  have hts0 := atoms_spec (ws := zw_Mod_common) B.pre
  have hts : ∀ w ∈ WSg, w.before _ s = true := fun w h => hts0 w (List.mem_cons_of_mem _ h)
  clear hts0
  have hown : s.vm.findClass zR_Mod = some m.cls := findClass_of_methodNamed B.named
  have hlocks := B.notSynchronized
  subst hsz
  have hD := hD0.self (sz := s.heap.size)
  generalize hAe : va_A [] s.heap.size = A at hD ⊢
  have hA : ∀ q : Nat, s.heap.size ≤ q → A q := fun q h => by rw [← hAe]; exact Or.inr h
  have hS : va_S A s.heap s.heap [] := va_S.rf
  have hP : va_P (dC, dI) zCl [] s.heap := hP
  have hl := lv_entry ([.long x0, .int x1, .long x2, .int x3]) (n := 7) (Nat.le_of_ble_eq_true rfl)
  rw [lg_entry_eq]
  generalize (lg_sl ([.long x0, .int x1, .long x2, .int x3]) ++ List.replicate (7 - (lg_sl ([.long x0, .int x1, .long x2, .int x3])).length) Slot.unset).toArray = ls at hl ⊢
  have hl : lv_has ls 7 [(0, .long x0), (2, .int x1), (3, .long x2), (5, .int x3)] := hl
  have KR : ∀ (pc : Nat) (ls : Array Slot) (H : Heap) (locs : List Loc), decode zc_Mod_common pc = .ok (.ireturn, 1) → va_P (dC, dI) zCl [] H → va_D A [] → va_S A s.heap H locs → W p l e (headSpec zw_Mod_common ({ frames := 0, cells := 0, slots := 0, locals := 0 })).room s m ([.long x0, .int x1, .long x2, .int x3] : List Value).toArray below meth c H locs 0 0 (MQ below (va_Qi (fun (r : Int32) (_ : Unit) => u = r) (fun _ t => va_P (dC, dI) zCl [] t.heap ∧ va_D A []) A) ([.long x0, .int x1, .long x2, .int x3] : List Value).toArray s 0 0 A) (F0 m pc ls [.int u]) := by
    intro pc ls H locs hd hP9 hD9 hS
    exact W.iret (v := u) hx hb hr (fun t ht hW => ⟨⟨u, (), rfl, rfl, by rw [ht]; exact hP9, hD9⟩, hS.F ht⟩) hS.2.2 hd
  generalize (MQ below (va_Qi (fun (r : Int32) (_ : Unit) => u = r) (fun _ t => va_P (dC, dI) zCl [] t.heap ∧ va_D A []) A) ([.long x0, .int x1, .long x2, .int x3] : List Value).toArray s 0 0 A) = Q at KR ⊢
  have L3 : ∀ (n : Nat) (l0 : Int64) (l2 : Int32) (l3 : Int64) (l5 : Int32) (l6 : Int32) (ls : Array Slot) (H : Heap) (locs : List Loc) (uu : (Int32)), lv_has ls 7 [(0, .long l0), (2, .int l2), (3, .long l3), (5, .int l5), (6, .int l6)] → va_P (dC, dI) zCl [] H → va_D A [] → va_S A s.heap H locs → m_M_common_l3 l0 l2 l3 l5 n l6 = some uu → (∀ (ls : Array Slot) (H : Heap) (locs : List Loc), lv_has ls 7 [(0, .long l0), (2, .int l2), (3, .long l3), (5, .int l5), (6, .int uu)] → va_P (dC, dI) zCl [] H → va_D A [] → va_S A s.heap H locs → W p l e (headSpec zw_Mod_common ({ frames := 0, cells := 0, slots := 0, locals := 0 })).room s m ([.long x0, .int x1, .long x2, .int x3] : List Value).toArray below meth c H locs 0 0 Q (F0 m 48 ls [])) → W p l e (headSpec zw_Mod_common ({ frames := 0, cells := 0, slots := 0, locals := 0 })).room s m ([.long x0, .int x1, .long x2, .int x3] : List Value).toArray below meth c H locs 0 0 Q (F0 m 3 ls []) := by
    intro n
    induction n with
    | zero =>
      intro l0 l2 l3 l5 l6 ls H locs uu hl hP hD hS hm K
      rw [m_M_common_l3] at hm
      cases hm
    | succ n ih =>
      intro l0 l2 l3 l5 l6 ls H locs uu hl hP hD hS hm K
      rw [m_M_common_l3] at hm
      refine lv_iload hx hb zd_Mod_common_3 (lv_at hl 4 rfl) ?_
      refine lv_iload_n hx hb zd_Mod_common_5 rfl (lv_at hl 1 rfl) ?_
      refine lv_icmp_ge (tgt := 48) hx hb zd_Mod_common_6 (by decide) (fun hc => ?_) (fun hc => ?_)
      · rw [if_pos hc] at hm
        obtain rfl := Option.some.inj hm
        exact K ls H locs (lv_sub hl [0, 1, 2, 3, 4] rfl) hP hD hS
      · rw [if_neg hc] at hm
        refine lv_iload hx hb zd_Mod_common_9 (lv_at hl 4 rfl) ?_
        refine lv_iload hx hb zd_Mod_common_11 (lv_at hl 3 rfl) ?_
        refine lv_icmp_ge (tgt := 48) hx hb zd_Mod_common_13 (by decide) (fun hc => ?_) (fun hc => ?_)
        · rw [if_pos hc] at hm
          obtain rfl := Option.some.inj hm
          exact K ls H locs (lv_sub hl [0, 1, 2, 3, 4] rfl) hP hD hS
        · rw [if_neg hc] at hm
          refine lv_lload_n hx hb zd_Mod_common_16 rfl (lv_at hl 0 rfl) ?_
          refine lv_bipush (v := 8) hx hb zd_Mod_common_17 (by decide) ?_
          refine lv_iload hx hb zd_Mod_common_19 (lv_at hl 4 rfl) ?_
          refine lv_imul hx hb zd_Mod_common_21 ?_
          refine lv_lshr (v := (l0 >>> (((8 * l6) : Int32).toInt64 &&& 63))) hx hb zd_Mod_common_22 rfl ?_
          refine lv_ldc2 (v := 255) hx hb hown (hts _ wk412) zd_Mod_common_23 ?_
          refine lv_land hx hb zd_Mod_common_26 ?_
          refine lv_lload_n hx hb zd_Mod_common_27 rfl (lv_at hl 2 rfl) ?_
          refine lv_bipush (v := 8) hx hb zd_Mod_common_28 (by decide) ?_
          refine lv_iload hx hb zd_Mod_common_30 (lv_at hl 4 rfl) ?_
          refine lv_imul hx hb zd_Mod_common_32 ?_
          refine lv_lshr (v := (l3 >>> (((8 * l6) : Int32).toInt64 &&& 63))) hx hb zd_Mod_common_33 rfl ?_
          refine lv_ldc2 (v := 255) hx hb hown (hts _ wk412) zd_Mod_common_34 ?_
          refine lv_land hx hb zd_Mod_common_37 ?_
          refine W.lcmp hx hb zd_Mod_common_38 ?_
          refine lv_if_ne (tgt := 48) hx hb zd_Mod_common_39 (by decide) (fun hc => ?_) (fun hc => ?_)
          · rw [if_neg hc] at hm
            obtain rfl := Option.some.inj hm
            exact K ls H locs (lv_sub hl [0, 1, 2, 3, 4] rfl) hP hD hS
          · rw [if_pos hc] at hm
            refine lv_iinc (k := 4) (v := (l6 + 1)) (lv' := [(6, .int ((l6 + 1))), (0, .long l0), (2, .int l2), (3, .long l3), (5, .int l5)]) hx hb zd_Mod_common_42 hl rfl rfl (by decide) rfl (fun ls hl => ?_)
            refine lv_goto (tgt := 3) hx hb zd_Mod_common_45 (by decide) ?_
            exact ih l0 l2 l3 l5 ((l6 + 1)) ls H locs uu (lv_sub hl [1, 2, 3, 4, 0] rfl) hP hD hS hm K
  unfold m_M_common at hm
  refine lv_iconst (v := 0) hx hb zd_Mod_common_0 (by decide) ?_
  refine lv_istore (lv' := [(6, .int 0), (0, .long x0), (2, .int x1), (3, .long x2), (5, .int x3)]) hx hb zd_Mod_common_1 hl (by decide) rfl (fun ls hl => ?_)
  obtain ⟨u1, hu1, hm⟩ := Option.bind_eq_some_iff.mp hm
  refine L3 100 x0 x1 x2 x3 0 ls _ _ u1 (lv_sub hl [1, 2, 3, 4, 0] rfl) hP hD hS hu1 (fun ls H locs hl hP hD hS => ?_)
  refine lv_iload hx hb zd_Mod_common_48 (lv_at hl 4 rfl) ?_
  obtain rfl := Option.some.inj hm
  exact KR 50 ls _ _ zd_Mod_common_50 hP hD hS
set_option maxHeartbeats 4000000 in
set_option maxRecDepth 100000 in
theorem c_M_isBefore (l : Launch) (dC : Nat → ClassId) (dI : Nat → Nat → Nat) (cL cI : ClassId) (sz : Nat) (x0 : Int64) (x1 : Int32) (x2 : Int64) (x3 : Int32) (u : Int32) (hm : m_M_isBefore x0 x1 x2 x3 = some u) : Met l zy_Mod_isBefore zw_Mod_isBefore ({ frames := 1, cells := 0, slots := 0, locals := 26 }) (va_Pc [.long x0, .int x1, .long x2, .int x3] (fun U => U.heap.size = sz ∧ va_P (dC, dI) zCl [] U.heap ∧ va_K (dC, dI) zCl [(cL, .long), (cI, .int)] U ∧ va_D (fun _ => True) [])) (va_Qi (fun (r : Int32) (_ : Unit) => u = r) (fun _ t => va_P (dC, dI) zCl [] t.heap ∧ va_D (va_A [] sz) []) (va_A [] sz)) 0 0 (va_A [] sz) := by
  refine Met.ofW (cc := zc_Mod_isBefore) (maxL := 7) (ret := (some .boolean)) (by decide) rfl ?_
  intro p e s m args below meth c s₁ B hml hv
  obtain ⟨rfl, hsz, hP, hK, hD0⟩ := hv
  have hx := B.exec
  have hb := B.bytes
  have hr := B.returns
  have hts0 := atoms_spec (ws := zw_Mod_isBefore) B.pre
  have hts : ∀ w ∈ WSg, w.before _ s = true := fun w h => hts0 w (List.mem_cons_of_mem _ h)
  clear hts0
  have hown : s.vm.findClass zR_Mod = some m.cls := findClass_of_methodNamed B.named
  have hlocks := B.notSynchronized
  subst hsz
  have hD := hD0.self (sz := s.heap.size)
  generalize hAe : va_A [] s.heap.size = A at hD ⊢
  have hA : ∀ q : Nat, s.heap.size ≤ q → A q := fun q h => by rw [← hAe]; exact Or.inr h
  have hS : va_S A s.heap s.heap [] := va_S.rf
  have hP : va_P (dC, dI) zCl [] s.heap := hP
  have hl := lv_entry ([.long x0, .int x1, .long x2, .int x3]) (n := 7) (Nat.le_of_ble_eq_true rfl)
  rw [lg_entry_eq]
  generalize (lg_sl ([.long x0, .int x1, .long x2, .int x3]) ++ List.replicate (7 - (lg_sl ([.long x0, .int x1, .long x2, .int x3])).length) Slot.unset).toArray = ls at hl ⊢
  have hl : lv_has ls 7 [(0, .long x0), (2, .int x1), (3, .long x2), (5, .int x3)] := hl
  have KR : ∀ (pc : Nat) (ls : Array Slot) (H : Heap) (locs : List Loc), decode zc_Mod_isBefore pc = .ok (.ireturn, 1) → narrow .boolean (.int u) = .int u → va_P (dC, dI) zCl [] H → va_D A [] → va_S A s.heap H locs → W p l e (headSpec zw_Mod_isBefore ({ frames := 1, cells := 0, slots := 0, locals := 26 })).room s m ([.long x0, .int x1, .long x2, .int x3] : List Value).toArray below meth c H locs 0 0 (MQ below (va_Qi (fun (r : Int32) (_ : Unit) => u = r) (fun _ t => va_P (dC, dI) zCl [] t.heap ∧ va_D A []) A) ([.long x0, .int x1, .long x2, .int x3] : List Value).toArray s 0 0 A) (F0 m pc ls [.int u]) := by
    intro pc ls H locs hd hz hP9 hD9 hS
    exact W.zret (v := u) (ty := .boolean) hx hb hr hz (fun t ht hW => ⟨⟨u, (), rfl, rfl, by rw [ht]; exact hP9, hD9⟩, hS.F ht⟩) hS.2.2 hd
  generalize (MQ below (va_Qi (fun (r : Int32) (_ : Unit) => u = r) (fun _ t => va_P (dC, dI) zCl [] t.heap ∧ va_D A []) A) ([.long x0, .int x1, .long x2, .int x3] : List Value).toArray s 0 0 A) = Q at KR ⊢
  unfold m_M_isBefore at hm
  refine lv_lload_n hx hb zd_Mod_isBefore_0 rfl (lv_at hl 0 rfl) ?_
  refine lv_iload_n hx hb zd_Mod_isBefore_1 rfl (lv_at hl 1 rfl) ?_
  refine lv_lload_n hx hb zd_Mod_isBefore_2 rfl (lv_at hl 2 rfl) ?_
  refine lv_iload hx hb zd_Mod_isBefore_3 (lv_at hl 3 rfl) ?_
  obtain ⟨u1, hu1, hm⟩ := Option.bind_eq_some_iff.mp hm
  have hPc := hP
  have hDc := hD
  have hFc := va_free (wc := []) hD hS hA [] rfl
  refine va_calli (va_runS (As := [.long x0, .int x1, .long x2, .int x3]) (rest := []) ⟨hx, hb, hml, hown, hts⟩ (c_M_common l dC dI cL cI s.heap.size x0 x1 x2 x3 u1 hu1) (va_cwS 4 hts (zgS wk420 wk421 wk298 wk418) rfl rfl rfl zh_Mod_common.2 ⟨Nat.le_of_ble_eq_true rfl, Nat.le_of_ble_eq_true rfl⟩) ⟨fun a U g mk q => by obtain ⟨q0, q1, qP, qK, qD⟩ := q; exact ⟨q0, q1, qP, va_K.moved (u := U) (U := U.calling g mk a) (Vm.Alike.refl U.vm) qK, qD⟩, fun U hU hW => ⟨rfl, by rw [hU], by rw [hU]; exact hPc, va_K.moved hW.alike hK, hDc.weaken (fun _ _ _ _ => trivial)⟩⟩ rfl rfl hl.1 rfl (lv_room (Nat.le_of_ble_eq_true rfl)) zd_Mod_isBefore_5 ⟨Nat.le_of_ble_eq_true rfl, Nat.le_of_ble_eq_true rfl⟩) hS (fun q _ h => hFc q h) hFc (fun r1 _ t H1 locs ht hvm hw hB hz1 hk1 hS => ?_)
  subst hw
  obtain ⟨hP1, hD1⟩ := hB
  rw [ht] at hP1
  have hP := hP1
  have hD := hD1.weaken (fun _ q _ h => hFc q.1 h)
  generalize H1 = H at hP hS ⊢
  refine lv_istore (lv' := [(6, .int u1), (0, .long x0), (2, .int x1), (3, .long x2), (5, .int x3)]) hx hb zd_Mod_isBefore_8 hl (by decide) rfl (fun ls hl => ?_)
  refine lv_iload hx hb zd_Mod_isBefore_10 (lv_at hl 0 rfl) ?_
  refine lv_iload_n hx hb zd_Mod_isBefore_12 rfl (lv_at hl 2 rfl) ?_
  refine lv_icmp_ne (tgt := 30) hx hb zd_Mod_isBefore_13 (by decide) (fun hc => ?_) (fun hc => ?_)
  · rw [if_neg hc] at hm
    refine lv_iload hx hb zd_Mod_isBefore_30 (lv_at hl 0 rfl) ?_
    refine lv_iload hx hb zd_Mod_isBefore_32 (lv_at hl 4 rfl) ?_
    refine lv_icmp_ge (tgt := 67) hx hb zd_Mod_isBefore_34 (by decide) (fun hc => ?_) (fun hc => ?_)
    · rw [if_pos hc] at hm
      refine lv_iconst (v := 0) hx hb zd_Mod_isBefore_67 (by decide) ?_
      obtain rfl := Option.some.inj hm
      exact KR 68 ls _ _ zd_Mod_isBefore_68 rfl hP hD hS
    · rw [if_neg hc] at hm
      refine lv_lload_n hx hb zd_Mod_isBefore_37 rfl (lv_at hl 1 rfl) ?_
      refine lv_bipush (v := 8) hx hb zd_Mod_isBefore_38 (by decide) ?_
      refine lv_iload hx hb zd_Mod_isBefore_40 (lv_at hl 0 rfl) ?_
      refine lv_imul hx hb zd_Mod_isBefore_42 ?_
      refine lv_lshr (v := (x0 >>> (((8 * u1) : Int32).toInt64 &&& 63))) hx hb zd_Mod_isBefore_43 rfl ?_
      refine lv_ldc2 (v := 255) hx hb hown (hts _ wk412) zd_Mod_isBefore_44 ?_
      refine lv_land hx hb zd_Mod_isBefore_47 ?_
      refine lv_lload_n hx hb zd_Mod_isBefore_48 rfl (lv_at hl 3 rfl) ?_
      refine lv_bipush (v := 8) hx hb zd_Mod_isBefore_49 (by decide) ?_
      refine lv_iload hx hb zd_Mod_isBefore_51 (lv_at hl 0 rfl) ?_
      refine lv_imul hx hb zd_Mod_isBefore_53 ?_
      refine lv_lshr (v := (x2 >>> (((8 * u1) : Int32).toInt64 &&& 63))) hx hb zd_Mod_isBefore_54 rfl ?_
      refine lv_ldc2 (v := 255) hx hb hown (hts _ wk412) zd_Mod_isBefore_55 ?_
      refine lv_land hx hb zd_Mod_isBefore_58 ?_
      refine W.lcmp hx hb zd_Mod_isBefore_59 ?_
      refine lv_if_ge (tgt := 67) hx hb zd_Mod_isBefore_60 (by decide) (fun hc => ?_) (fun hc => ?_)
      · rw [if_pos hc] at hm
        refine lv_iconst (v := 0) hx hb zd_Mod_isBefore_67 (by decide) ?_
        obtain rfl := Option.some.inj hm
        exact KR 68 ls _ _ zd_Mod_isBefore_68 rfl hP hD hS
      · rw [if_neg hc] at hm
        refine lv_iconst (v := 1) hx hb zd_Mod_isBefore_63 (by decide) ?_
        refine lv_goto (tgt := 68) hx hb zd_Mod_isBefore_64 (by decide) ?_
        obtain rfl := Option.some.inj hm
        exact KR 68 ls _ _ zd_Mod_isBefore_68 rfl hP hD hS
  · rw [if_pos hc] at hm
    refine lv_iload_n hx hb zd_Mod_isBefore_16 rfl (lv_at hl 2 rfl) ?_
    refine lv_iload hx hb zd_Mod_isBefore_17 (lv_at hl 4 rfl) ?_
    refine lv_icmp_ge (tgt := 26) hx hb zd_Mod_isBefore_19 (by decide) (fun hc => ?_) (fun hc => ?_)
    · rw [if_pos hc] at hm
      refine lv_iconst (v := 0) hx hb zd_Mod_isBefore_26 (by decide) ?_
      refine lv_goto (tgt := 68) hx hb zd_Mod_isBefore_27 (by decide) ?_
      obtain rfl := Option.some.inj hm
      exact KR 68 ls _ _ zd_Mod_isBefore_68 rfl hP hD hS
    · rw [if_neg hc] at hm
      refine lv_iconst (v := 1) hx hb zd_Mod_isBefore_22 (by decide) ?_
      refine lv_goto (tgt := 68) hx hb zd_Mod_isBefore_23 (by decide) ?_
      obtain rfl := Option.some.inj hm
      exact KR 68 ls _ _ zd_Mod_isBefore_68 rfl hP hD hS
set_option maxHeartbeats 4000000 in
set_option maxRecDepth 100000 in
theorem c_M_row (l : Launch) (dC : Nat → ClassId) (dI : Nat → Nat → Nat) (cL cI : ClassId) (h_a h_a_names h_a_lengths h_a_serials h_a_targets h_a_rowBytes h_a_rowLengths h_a_placeBytes h_a_placeLengths : Nat) (sz : Nat) (x0 : Int64) (x1 : Int32) (a_thrown : Int32) (a_count : Int32) (a_names : Nat → Int64) (a_lengths : Nat → Int32) (a_serials : Nat → Int32) (a_targets : Nat → Int32) (a_latest : Int32) (a_hand : Int64) (a_handLength : Int32) (a_foundSerial : Int32) (a_rows : Int32) (a_rowBytes : Nat → Int64) (a_rowLengths : Nat → Int32) (a_places : Int32) (a_placeBytes : Nat → Int64) (a_placeLengths : Nat → Int32) (a_off : Int32) (a_left : Int32) (a_made : Int32) (u : Int32 × (Nat → Int64) × (Nat → Int32)) (hm : m_M_row x0 x1 a_rows a_rowBytes a_rowLengths = some u) : Met l zy_Mod_row zw_Mod_row ({ frames := 0, cells := 0, slots := 0, locals := 0 }) (va_Pc [.ref h_a, .long x0, .int x1] (fun U => U.heap.size = sz ∧ va_P (dC, dI) zCl [(h_a, .inr (4, [.int a_thrown, .int a_count, .ref h_a_names, .ref h_a_lengths, .ref h_a_serials, .ref h_a_targets, .int a_latest, .long a_hand, .int a_handLength, .int a_foundSerial, .int a_rows, .ref h_a_rowBytes, .ref h_a_rowLengths, .int a_places, .ref h_a_placeBytes, .ref h_a_placeLengths, .int a_off, .int a_left, .int a_made])), (h_a_rowBytes, .inl (cL, 25, .inr (.inl a_rowBytes))), (h_a_rowLengths, .inl (cI, 25, .inl a_rowLengths))] U.heap ∧ va_K (dC, dI) zCl [(cL, .long), (cI, .int)] U ∧ va_D (fun _ => True) [(h_a, .inr (4, [.int a_thrown, .int a_count, .ref h_a_names, .ref h_a_lengths, .ref h_a_serials, .ref h_a_targets, .int a_latest, .long a_hand, .int a_handLength, .int a_foundSerial, .int a_rows, .ref h_a_rowBytes, .ref h_a_rowLengths, .int a_places, .ref h_a_placeBytes, .ref h_a_placeLengths, .int a_off, .int a_left, .int a_made])), (h_a_rowBytes, .inl (cL, 25, .inr (.inl a_rowBytes))), (h_a_rowLengths, .inl (cI, 25, .inl a_rowLengths))])) (va_Qv (fun _ : Unit => True) (fun _ t => va_P (dC, dI) zCl [(h_a, .inr (4, [.int a_thrown, .int a_count, .ref h_a_names, .ref h_a_lengths, .ref h_a_serials, .ref h_a_targets, .int a_latest, .long a_hand, .int a_handLength, .int a_foundSerial, .int u.1, .ref h_a_rowBytes, .ref h_a_rowLengths, .int a_places, .ref h_a_placeBytes, .ref h_a_placeLengths, .int a_off, .int a_left, .int a_made])), (h_a_rowBytes, .inl (cL, 25, .inr (.inl u.2.1))), (h_a_rowLengths, .inl (cI, 25, .inl u.2.2))] t.heap ∧ va_D (va_A [(h_a, .inr (4, [.int a_thrown, .int a_count, .ref h_a_names, .ref h_a_lengths, .ref h_a_serials, .ref h_a_targets, .int a_latest, .long a_hand, .int a_handLength, .int a_foundSerial, .int a_rows, .ref h_a_rowBytes, .ref h_a_rowLengths, .int a_places, .ref h_a_placeBytes, .ref h_a_placeLengths, .int a_off, .int a_left, .int a_made])), (h_a_rowBytes, .inl (cL, 25, .inr (.inl a_rowBytes))), (h_a_rowLengths, .inl (cI, 25, .inl a_rowLengths))] sz) [(h_a, .inr (4, [.int a_thrown, .int a_count, .ref h_a_names, .ref h_a_lengths, .ref h_a_serials, .ref h_a_targets, .int a_latest, .long a_hand, .int a_handLength, .int a_foundSerial, .int u.1, .ref h_a_rowBytes, .ref h_a_rowLengths, .int a_places, .ref h_a_placeBytes, .ref h_a_placeLengths, .int a_off, .int a_left, .int a_made])), (h_a_rowBytes, .inl (cL, 25, .inr (.inl u.2.1))), (h_a_rowLengths, .inl (cI, 25, .inl u.2.2))]) (va_A [(h_a, .inr (4, [.int a_thrown, .int a_count, .ref h_a_names, .ref h_a_lengths, .ref h_a_serials, .ref h_a_targets, .int a_latest, .long a_hand, .int a_handLength, .int a_foundSerial, .int a_rows, .ref h_a_rowBytes, .ref h_a_rowLengths, .int a_places, .ref h_a_placeBytes, .ref h_a_placeLengths, .int a_off, .int a_left, .int a_made])), (h_a_rowBytes, .inl (cL, 25, .inr (.inl a_rowBytes))), (h_a_rowLengths, .inl (cI, 25, .inl a_rowLengths))] sz)) 0 0 (va_A [(h_a, .inr (4, [.int a_thrown, .int a_count, .ref h_a_names, .ref h_a_lengths, .ref h_a_serials, .ref h_a_targets, .int a_latest, .long a_hand, .int a_handLength, .int a_foundSerial, .int a_rows, .ref h_a_rowBytes, .ref h_a_rowLengths, .int a_places, .ref h_a_placeBytes, .ref h_a_placeLengths, .int a_off, .int a_left, .int a_made])), (h_a_rowBytes, .inl (cL, 25, .inr (.inl a_rowBytes))), (h_a_rowLengths, .inl (cI, 25, .inl a_rowLengths))] sz) := by
  refine Met.ofW (cc := zc_Mod_row) (maxL := 4) (ret := none) (by decide) rfl ?_
  intro p e s m args below meth c s₁ B hml hv
  obtain ⟨rfl, hsz, hP, hK, hD0⟩ := hv
  have hx := B.exec
  have hb := B.bytes
  have hr := B.returns
  have hts0 := atoms_spec (ws := zw_Mod_row) B.pre
  have hts : ∀ w ∈ WSg, w.before _ s = true := fun w h => hts0 w (List.mem_cons_of_mem _ h)
  clear hts0
  have hown : s.vm.findClass zR_Mod = some m.cls := findClass_of_methodNamed B.named
  have hlocks := B.notSynchronized
  subst hsz
  have hD := hD0.self (sz := s.heap.size)
  generalize hAe : va_A [(h_a, .inr (4, [.int a_thrown, .int a_count, .ref h_a_names, .ref h_a_lengths, .ref h_a_serials, .ref h_a_targets, .int a_latest, .long a_hand, .int a_handLength, .int a_foundSerial, .int a_rows, .ref h_a_rowBytes, .ref h_a_rowLengths, .int a_places, .ref h_a_placeBytes, .ref h_a_placeLengths, .int a_off, .int a_left, .int a_made])), (h_a_rowBytes, .inl (cL, 25, .inr (.inl a_rowBytes))), (h_a_rowLengths, .inl (cI, 25, .inl a_rowLengths))] s.heap.size = A at hD ⊢
  have hA : ∀ q : Nat, s.heap.size ≤ q → A q := fun q h => by rw [← hAe]; exact Or.inr h
  have hS : va_S A s.heap s.heap [] := va_S.rf
  have hP : va_P (dC, dI) zCl [(h_a, .inr (4, [.int a_thrown, .int a_count, .ref h_a_names, .ref h_a_lengths, .ref h_a_serials, .ref h_a_targets, .int a_latest, .long a_hand, .int a_handLength, .int a_foundSerial, .int a_rows, .ref h_a_rowBytes, .ref h_a_rowLengths, .int a_places, .ref h_a_placeBytes, .ref h_a_placeLengths, .int a_off, .int a_left, .int a_made])), (h_a_rowBytes, .inl (cL, 25, .inr (.inl a_rowBytes))), (h_a_rowLengths, .inl (cI, 25, .inl a_rowLengths))] s.heap := hP
  have hl := lv_entry ([.ref h_a, .long x0, .int x1]) (n := 4) (Nat.le_of_ble_eq_true rfl)
  rw [lg_entry_eq]
  generalize (lg_sl ([.ref h_a, .long x0, .int x1]) ++ List.replicate (4 - (lg_sl ([.ref h_a, .long x0, .int x1])).length) Slot.unset).toArray = ls at hl ⊢
  have hl : lv_has ls 4 [(0, .ref h_a), (1, .long x0), (3, .int x1)] := hl
  have KR : ∀ (pc : Nat) (ls : Array Slot) (H : Heap) (locs : List Loc), decode zc_Mod_row pc = .ok (.return_, 1) → va_P (dC, dI) zCl [(h_a, .inr (4, [.int a_thrown, .int a_count, .ref h_a_names, .ref h_a_lengths, .ref h_a_serials, .ref h_a_targets, .int a_latest, .long a_hand, .int a_handLength, .int a_foundSerial, .int u.1, .ref h_a_rowBytes, .ref h_a_rowLengths, .int a_places, .ref h_a_placeBytes, .ref h_a_placeLengths, .int a_off, .int a_left, .int a_made])), (h_a_rowBytes, .inl (cL, 25, .inr (.inl u.2.1))), (h_a_rowLengths, .inl (cI, 25, .inl u.2.2))] H → va_D A [(h_a, .inr (4, [.int a_thrown, .int a_count, .ref h_a_names, .ref h_a_lengths, .ref h_a_serials, .ref h_a_targets, .int a_latest, .long a_hand, .int a_handLength, .int a_foundSerial, .int u.1, .ref h_a_rowBytes, .ref h_a_rowLengths, .int a_places, .ref h_a_placeBytes, .ref h_a_placeLengths, .int a_off, .int a_left, .int a_made])), (h_a_rowBytes, .inl (cL, 25, .inr (.inl u.2.1))), (h_a_rowLengths, .inl (cI, 25, .inl u.2.2))] → va_S A s.heap H locs → W p l e (headSpec zw_Mod_row ({ frames := 0, cells := 0, slots := 0, locals := 0 })).room s m ([.ref h_a, .long x0, .int x1] : List Value).toArray below meth c H locs 0 0 (MQ below (va_Qv (fun _ : Unit => True) (fun _ t => va_P (dC, dI) zCl [(h_a, .inr (4, [.int a_thrown, .int a_count, .ref h_a_names, .ref h_a_lengths, .ref h_a_serials, .ref h_a_targets, .int a_latest, .long a_hand, .int a_handLength, .int a_foundSerial, .int u.1, .ref h_a_rowBytes, .ref h_a_rowLengths, .int a_places, .ref h_a_placeBytes, .ref h_a_placeLengths, .int a_off, .int a_left, .int a_made])), (h_a_rowBytes, .inl (cL, 25, .inr (.inl u.2.1))), (h_a_rowLengths, .inl (cI, 25, .inl u.2.2))] t.heap ∧ va_D A [(h_a, .inr (4, [.int a_thrown, .int a_count, .ref h_a_names, .ref h_a_lengths, .ref h_a_serials, .ref h_a_targets, .int a_latest, .long a_hand, .int a_handLength, .int a_foundSerial, .int u.1, .ref h_a_rowBytes, .ref h_a_rowLengths, .int a_places, .ref h_a_placeBytes, .ref h_a_placeLengths, .int a_off, .int a_left, .int a_made])), (h_a_rowBytes, .inl (cL, 25, .inr (.inl u.2.1))), (h_a_rowLengths, .inl (cI, 25, .inl u.2.2))]) A) ([.ref h_a, .long x0, .int x1] : List Value).toArray s 0 0 A) (F0 m pc ls []) := by
    intro pc ls H locs hd hP9 hD9 hS
    exact W.vret hx hb hr (fun t ht hW => ⟨⟨(), rfl, trivial, by rw [ht]; exact hP9, hD9⟩, hS.F ht⟩) hS.2.2 hd
  generalize (MQ below (va_Qv (fun _ : Unit => True) (fun _ t => va_P (dC, dI) zCl [(h_a, .inr (4, [.int a_thrown, .int a_count, .ref h_a_names, .ref h_a_lengths, .ref h_a_serials, .ref h_a_targets, .int a_latest, .long a_hand, .int a_handLength, .int a_foundSerial, .int u.1, .ref h_a_rowBytes, .ref h_a_rowLengths, .int a_places, .ref h_a_placeBytes, .ref h_a_placeLengths, .int a_off, .int a_left, .int a_made])), (h_a_rowBytes, .inl (cL, 25, .inr (.inl u.2.1))), (h_a_rowLengths, .inl (cI, 25, .inl u.2.2))] t.heap ∧ va_D A [(h_a, .inr (4, [.int a_thrown, .int a_count, .ref h_a_names, .ref h_a_lengths, .ref h_a_serials, .ref h_a_targets, .int a_latest, .long a_hand, .int a_handLength, .int a_foundSerial, .int u.1, .ref h_a_rowBytes, .ref h_a_rowLengths, .int a_places, .ref h_a_placeBytes, .ref h_a_placeLengths, .int a_off, .int a_left, .int a_made])), (h_a_rowBytes, .inl (cL, 25, .inr (.inl u.2.1))), (h_a_rowLengths, .inl (cI, 25, .inl u.2.2))]) A) ([.ref h_a, .long x0, .int x1] : List Value).toArray s 0 0 A) = Q at KR ⊢
  unfold m_M_row at hm
  refine lv_aload_n hx hb zd_Mod_row_0 rfl (lv_at hl 0 rfl) ?_
  refine va_get (D := (dC, dI)) (ci := 4) (v := .ref h_a_rowBytes) (C := zR_Mod) (T := zT_Mod) (N := 19) hx hb hts zu_Mod hown hK hP 0 rfl rfl 11 (by decide) (hts _ wk403) (fun _ h9 => h9) rfl zd_Mod_row_1 ?_
  refine lv_aload_n hx hb zd_Mod_row_4 rfl (lv_at hl 0 rfl) ?_
  refine va_get (D := (dC, dI)) (ci := 4) (v := .int a_rows) (C := zR_Mod) (T := zT_Mod) (N := 19) hx hb hts zu_Mod hown hK hP 0 rfl rfl 10 (by decide) (hts _ wk423) (fun _ h9 => h9) rfl zd_Mod_row_5 ?_
  refine lv_lload_n hx hb zd_Mod_row_8 rfl (lv_at hl 1 rfl) ?_
  by_cases hi : a_rows < 0 ∨ 25 ≤ a_rows.toNatClampNeg
  · rw [if_pos hi] at hm; cases hm
  rw [if_neg hi] at hm
  refine va_last hx hb hK hP hD hS 1 0 rfl rfl hi zd_Mod_row_9 (fun H locs hP hD hS => ?_)
  have hP : va_P (dC, dI) zCl [(h_a, .inr (4, [.int a_thrown, .int a_count, .ref h_a_names, .ref h_a_lengths, .ref h_a_serials, .ref h_a_targets, .int a_latest, .long a_hand, .int a_handLength, .int a_foundSerial, .int a_rows, .ref h_a_rowBytes, .ref h_a_rowLengths, .int a_places, .ref h_a_placeBytes, .ref h_a_placeLengths, .int a_off, .int a_left, .int a_made])), (h_a_rowBytes, .inl (cL, 25, .inr (.inl ((vp_updL a_rowBytes a_rows.toNatClampNeg x0))))), (h_a_rowLengths, .inl (cI, 25, .inl a_rowLengths))] H := hP
  have hD : va_D A [(h_a, .inr (4, [.int a_thrown, .int a_count, .ref h_a_names, .ref h_a_lengths, .ref h_a_serials, .ref h_a_targets, .int a_latest, .long a_hand, .int a_handLength, .int a_foundSerial, .int a_rows, .ref h_a_rowBytes, .ref h_a_rowLengths, .int a_places, .ref h_a_placeBytes, .ref h_a_placeLengths, .int a_off, .int a_left, .int a_made])), (h_a_rowBytes, .inl (cL, 25, .inr (.inl ((vp_updL a_rowBytes a_rows.toNatClampNeg x0))))), (h_a_rowLengths, .inl (cI, 25, .inl a_rowLengths))] := hD
  refine lv_aload_n hx hb zd_Mod_row_10 rfl (lv_at hl 0 rfl) ?_
  refine va_get (D := (dC, dI)) (ci := 4) (v := .ref h_a_rowLengths) (C := zR_Mod) (T := zT_Mod) (N := 19) hx hb hts zu_Mod hown hK hP 0 rfl rfl 12 (by decide) (hts _ wk404) (fun _ h9 => h9) rfl zd_Mod_row_11 ?_
  refine lv_aload_n hx hb zd_Mod_row_14 rfl (lv_at hl 0 rfl) ?_
  refine va_get (D := (dC, dI)) (ci := 4) (v := .int a_rows) (C := zR_Mod) (T := zT_Mod) (N := 19) hx hb hts zu_Mod hown hK hP 0 rfl rfl 10 (by decide) (hts _ wk423) (fun _ h9 => h9) rfl zd_Mod_row_15 ?_
  refine lv_iload_n hx hb zd_Mod_row_18 rfl (lv_at hl 2 rfl) ?_
  by_cases hi : a_rows < 0 ∨ 25 ≤ a_rows.toNatClampNeg
  · rw [if_pos hi] at hm; cases hm
  rw [if_neg hi] at hm
  refine va_iast hx hb hK hP hD hS 2 1 rfl rfl hi zd_Mod_row_19 (fun H locs hP hD hS => ?_)
  have hP : va_P (dC, dI) zCl [(h_a, .inr (4, [.int a_thrown, .int a_count, .ref h_a_names, .ref h_a_lengths, .ref h_a_serials, .ref h_a_targets, .int a_latest, .long a_hand, .int a_handLength, .int a_foundSerial, .int a_rows, .ref h_a_rowBytes, .ref h_a_rowLengths, .int a_places, .ref h_a_placeBytes, .ref h_a_placeLengths, .int a_off, .int a_left, .int a_made])), (h_a_rowBytes, .inl (cL, 25, .inr (.inl ((vp_updL a_rowBytes a_rows.toNatClampNeg x0))))), (h_a_rowLengths, .inl (cI, 25, .inl ((upd a_rowLengths a_rows.toNatClampNeg x1))))] H := hP
  have hD : va_D A [(h_a, .inr (4, [.int a_thrown, .int a_count, .ref h_a_names, .ref h_a_lengths, .ref h_a_serials, .ref h_a_targets, .int a_latest, .long a_hand, .int a_handLength, .int a_foundSerial, .int a_rows, .ref h_a_rowBytes, .ref h_a_rowLengths, .int a_places, .ref h_a_placeBytes, .ref h_a_placeLengths, .int a_off, .int a_left, .int a_made])), (h_a_rowBytes, .inl (cL, 25, .inr (.inl ((vp_updL a_rowBytes a_rows.toNatClampNeg x0))))), (h_a_rowLengths, .inl (cI, 25, .inl ((upd a_rowLengths a_rows.toNatClampNeg x1))))] := hD
  refine lv_aload_n hx hb zd_Mod_row_20 rfl (lv_at hl 0 rfl) ?_
  refine lv_dup hx hb zd_Mod_row_21 rfl ?_
  refine va_get (D := (dC, dI)) (ci := 4) (v := .int a_rows) (C := zR_Mod) (T := zT_Mod) (N := 19) hx hb hts zu_Mod hown hK hP 0 rfl rfl 10 (by decide) (hts _ wk423) (fun _ h9 => h9) rfl zd_Mod_row_22 ?_
  refine lv_iconst (v := 1) hx hb zd_Mod_row_25 (by decide) ?_
  refine lv_iadd hx hb zd_Mod_row_26 ?_
  refine va_put (D := (dC, dI)) (ci := 4) (v := .int ((a_rows + 1))) (ty := .int) (C := zR_Mod) (T := zT_Mod) (N := 19) hx hb hts zu_Mod zt_Mod zt_Mod_ok zn_Mod hown hK hP hD hS 0 rfl rfl 10 (by decide) (hts _ wk423) (fun _ h9 => h9) rfl (by decide +kernel) rfl rfl (Nat.le_of_ble_eq_true rfl) zd_Mod_row_27 (fun H locs hP hD hS => ?_)
  have hP : va_P (dC, dI) zCl [(h_a, .inr (4, [.int a_thrown, .int a_count, .ref h_a_names, .ref h_a_lengths, .ref h_a_serials, .ref h_a_targets, .int a_latest, .long a_hand, .int a_handLength, .int a_foundSerial, .int ((a_rows + 1)), .ref h_a_rowBytes, .ref h_a_rowLengths, .int a_places, .ref h_a_placeBytes, .ref h_a_placeLengths, .int a_off, .int a_left, .int a_made])), (h_a_rowBytes, .inl (cL, 25, .inr (.inl ((vp_updL a_rowBytes a_rows.toNatClampNeg x0))))), (h_a_rowLengths, .inl (cI, 25, .inl ((upd a_rowLengths a_rows.toNatClampNeg x1))))] H := hP
  have hD : va_D A [(h_a, .inr (4, [.int a_thrown, .int a_count, .ref h_a_names, .ref h_a_lengths, .ref h_a_serials, .ref h_a_targets, .int a_latest, .long a_hand, .int a_handLength, .int a_foundSerial, .int ((a_rows + 1)), .ref h_a_rowBytes, .ref h_a_rowLengths, .int a_places, .ref h_a_placeBytes, .ref h_a_placeLengths, .int a_off, .int a_left, .int a_made])), (h_a_rowBytes, .inl (cL, 25, .inr (.inl ((vp_updL a_rowBytes a_rows.toNatClampNeg x0))))), (h_a_rowLengths, .inl (cI, 25, .inl ((upd a_rowLengths a_rows.toNatClampNeg x1))))] := hD
  obtain rfl := Option.some.inj hm
  exact KR 30 ls _ _ zd_Mod_row_30 hP hD hS
set_option maxHeartbeats 4000000 in
set_option maxRecDepth 100000 in
theorem c_M_lay (l : Launch) (dC : Nat → ClassId) (dI : Nat → Nat → Nat) (cL cI : ClassId) (h_a h_a_names h_a_lengths h_a_serials h_a_targets h_a_rowBytes h_a_rowLengths h_a_placeBytes h_a_placeLengths : Nat) (sz : Nat) (x0 : Int64) (x1 : Int32) (a_thrown : Int32) (a_count : Int32) (a_names : Nat → Int64) (a_lengths : Nat → Int32) (a_serials : Nat → Int32) (a_targets : Nat → Int32) (a_latest : Int32) (a_hand : Int64) (a_handLength : Int32) (a_foundSerial : Int32) (a_rows : Int32) (a_rowBytes : Nat → Int64) (a_rowLengths : Nat → Int32) (a_places : Int32) (a_placeBytes : Nat → Int64) (a_placeLengths : Nat → Int32) (a_off : Int32) (a_left : Int32) (a_made : Int32) (u : Int32 × (Nat → Int64) × (Nat → Int32)) (hm : m_M_lay x0 x1 a_places a_placeBytes a_placeLengths = some u) : Met l zy_Mod_lay zw_Mod_lay ({ frames := 0, cells := 0, slots := 0, locals := 0 }) (va_Pc [.ref h_a, .long x0, .int x1] (fun U => U.heap.size = sz ∧ va_P (dC, dI) zCl [(h_a, .inr (4, [.int a_thrown, .int a_count, .ref h_a_names, .ref h_a_lengths, .ref h_a_serials, .ref h_a_targets, .int a_latest, .long a_hand, .int a_handLength, .int a_foundSerial, .int a_rows, .ref h_a_rowBytes, .ref h_a_rowLengths, .int a_places, .ref h_a_placeBytes, .ref h_a_placeLengths, .int a_off, .int a_left, .int a_made])), (h_a_placeBytes, .inl (cL, 64, .inr (.inl a_placeBytes))), (h_a_placeLengths, .inl (cI, 64, .inl a_placeLengths))] U.heap ∧ va_K (dC, dI) zCl [(cL, .long), (cI, .int)] U ∧ va_D (fun _ => True) [(h_a, .inr (4, [.int a_thrown, .int a_count, .ref h_a_names, .ref h_a_lengths, .ref h_a_serials, .ref h_a_targets, .int a_latest, .long a_hand, .int a_handLength, .int a_foundSerial, .int a_rows, .ref h_a_rowBytes, .ref h_a_rowLengths, .int a_places, .ref h_a_placeBytes, .ref h_a_placeLengths, .int a_off, .int a_left, .int a_made])), (h_a_placeBytes, .inl (cL, 64, .inr (.inl a_placeBytes))), (h_a_placeLengths, .inl (cI, 64, .inl a_placeLengths))])) (va_Qv (fun _ : Unit => True) (fun _ t => va_P (dC, dI) zCl [(h_a, .inr (4, [.int a_thrown, .int a_count, .ref h_a_names, .ref h_a_lengths, .ref h_a_serials, .ref h_a_targets, .int a_latest, .long a_hand, .int a_handLength, .int a_foundSerial, .int a_rows, .ref h_a_rowBytes, .ref h_a_rowLengths, .int u.1, .ref h_a_placeBytes, .ref h_a_placeLengths, .int a_off, .int a_left, .int a_made])), (h_a_placeBytes, .inl (cL, 64, .inr (.inl u.2.1))), (h_a_placeLengths, .inl (cI, 64, .inl u.2.2))] t.heap ∧ va_D (va_A [(h_a, .inr (4, [.int a_thrown, .int a_count, .ref h_a_names, .ref h_a_lengths, .ref h_a_serials, .ref h_a_targets, .int a_latest, .long a_hand, .int a_handLength, .int a_foundSerial, .int a_rows, .ref h_a_rowBytes, .ref h_a_rowLengths, .int a_places, .ref h_a_placeBytes, .ref h_a_placeLengths, .int a_off, .int a_left, .int a_made])), (h_a_placeBytes, .inl (cL, 64, .inr (.inl a_placeBytes))), (h_a_placeLengths, .inl (cI, 64, .inl a_placeLengths))] sz) [(h_a, .inr (4, [.int a_thrown, .int a_count, .ref h_a_names, .ref h_a_lengths, .ref h_a_serials, .ref h_a_targets, .int a_latest, .long a_hand, .int a_handLength, .int a_foundSerial, .int a_rows, .ref h_a_rowBytes, .ref h_a_rowLengths, .int u.1, .ref h_a_placeBytes, .ref h_a_placeLengths, .int a_off, .int a_left, .int a_made])), (h_a_placeBytes, .inl (cL, 64, .inr (.inl u.2.1))), (h_a_placeLengths, .inl (cI, 64, .inl u.2.2))]) (va_A [(h_a, .inr (4, [.int a_thrown, .int a_count, .ref h_a_names, .ref h_a_lengths, .ref h_a_serials, .ref h_a_targets, .int a_latest, .long a_hand, .int a_handLength, .int a_foundSerial, .int a_rows, .ref h_a_rowBytes, .ref h_a_rowLengths, .int a_places, .ref h_a_placeBytes, .ref h_a_placeLengths, .int a_off, .int a_left, .int a_made])), (h_a_placeBytes, .inl (cL, 64, .inr (.inl a_placeBytes))), (h_a_placeLengths, .inl (cI, 64, .inl a_placeLengths))] sz)) 0 0 (va_A [(h_a, .inr (4, [.int a_thrown, .int a_count, .ref h_a_names, .ref h_a_lengths, .ref h_a_serials, .ref h_a_targets, .int a_latest, .long a_hand, .int a_handLength, .int a_foundSerial, .int a_rows, .ref h_a_rowBytes, .ref h_a_rowLengths, .int a_places, .ref h_a_placeBytes, .ref h_a_placeLengths, .int a_off, .int a_left, .int a_made])), (h_a_placeBytes, .inl (cL, 64, .inr (.inl a_placeBytes))), (h_a_placeLengths, .inl (cI, 64, .inl a_placeLengths))] sz) := by
  refine Met.ofW (cc := zc_Mod_lay) (maxL := 5) (ret := none) (by decide) rfl ?_
  intro p e s m args below meth c s₁ B hml hv
  obtain ⟨rfl, hsz, hP, hK, hD0⟩ := hv
  have hx := B.exec
  have hb := B.bytes
  have hr := B.returns
  have hts0 := atoms_spec (ws := zw_Mod_lay) B.pre
  have hts : ∀ w ∈ WSg, w.before _ s = true := fun w h => hts0 w (List.mem_cons_of_mem _ h)
  clear hts0
  have hown : s.vm.findClass zR_Mod = some m.cls := findClass_of_methodNamed B.named
  have hlocks := B.notSynchronized
  subst hsz
  have hD := hD0.self (sz := s.heap.size)
  generalize hAe : va_A [(h_a, .inr (4, [.int a_thrown, .int a_count, .ref h_a_names, .ref h_a_lengths, .ref h_a_serials, .ref h_a_targets, .int a_latest, .long a_hand, .int a_handLength, .int a_foundSerial, .int a_rows, .ref h_a_rowBytes, .ref h_a_rowLengths, .int a_places, .ref h_a_placeBytes, .ref h_a_placeLengths, .int a_off, .int a_left, .int a_made])), (h_a_placeBytes, .inl (cL, 64, .inr (.inl a_placeBytes))), (h_a_placeLengths, .inl (cI, 64, .inl a_placeLengths))] s.heap.size = A at hD ⊢
  have hA : ∀ q : Nat, s.heap.size ≤ q → A q := fun q h => by rw [← hAe]; exact Or.inr h
  have hS : va_S A s.heap s.heap [] := va_S.rf
  have hP : va_P (dC, dI) zCl [(h_a, .inr (4, [.int a_thrown, .int a_count, .ref h_a_names, .ref h_a_lengths, .ref h_a_serials, .ref h_a_targets, .int a_latest, .long a_hand, .int a_handLength, .int a_foundSerial, .int a_rows, .ref h_a_rowBytes, .ref h_a_rowLengths, .int a_places, .ref h_a_placeBytes, .ref h_a_placeLengths, .int a_off, .int a_left, .int a_made])), (h_a_placeBytes, .inl (cL, 64, .inr (.inl a_placeBytes))), (h_a_placeLengths, .inl (cI, 64, .inl a_placeLengths))] s.heap := hP
  have hl := lv_entry ([.ref h_a, .long x0, .int x1]) (n := 5) (Nat.le_of_ble_eq_true rfl)
  rw [lg_entry_eq]
  generalize (lg_sl ([.ref h_a, .long x0, .int x1]) ++ List.replicate (5 - (lg_sl ([.ref h_a, .long x0, .int x1])).length) Slot.unset).toArray = ls at hl ⊢
  have hl : lv_has ls 5 [(0, .ref h_a), (1, .long x0), (3, .int x1)] := hl
  have KR : ∀ (pc : Nat) (ls : Array Slot) (H : Heap) (locs : List Loc), decode zc_Mod_lay pc = .ok (.return_, 1) → va_P (dC, dI) zCl [(h_a, .inr (4, [.int a_thrown, .int a_count, .ref h_a_names, .ref h_a_lengths, .ref h_a_serials, .ref h_a_targets, .int a_latest, .long a_hand, .int a_handLength, .int a_foundSerial, .int a_rows, .ref h_a_rowBytes, .ref h_a_rowLengths, .int u.1, .ref h_a_placeBytes, .ref h_a_placeLengths, .int a_off, .int a_left, .int a_made])), (h_a_placeBytes, .inl (cL, 64, .inr (.inl u.2.1))), (h_a_placeLengths, .inl (cI, 64, .inl u.2.2))] H → va_D A [(h_a, .inr (4, [.int a_thrown, .int a_count, .ref h_a_names, .ref h_a_lengths, .ref h_a_serials, .ref h_a_targets, .int a_latest, .long a_hand, .int a_handLength, .int a_foundSerial, .int a_rows, .ref h_a_rowBytes, .ref h_a_rowLengths, .int u.1, .ref h_a_placeBytes, .ref h_a_placeLengths, .int a_off, .int a_left, .int a_made])), (h_a_placeBytes, .inl (cL, 64, .inr (.inl u.2.1))), (h_a_placeLengths, .inl (cI, 64, .inl u.2.2))] → va_S A s.heap H locs → W p l e (headSpec zw_Mod_lay ({ frames := 0, cells := 0, slots := 0, locals := 0 })).room s m ([.ref h_a, .long x0, .int x1] : List Value).toArray below meth c H locs 0 0 (MQ below (va_Qv (fun _ : Unit => True) (fun _ t => va_P (dC, dI) zCl [(h_a, .inr (4, [.int a_thrown, .int a_count, .ref h_a_names, .ref h_a_lengths, .ref h_a_serials, .ref h_a_targets, .int a_latest, .long a_hand, .int a_handLength, .int a_foundSerial, .int a_rows, .ref h_a_rowBytes, .ref h_a_rowLengths, .int u.1, .ref h_a_placeBytes, .ref h_a_placeLengths, .int a_off, .int a_left, .int a_made])), (h_a_placeBytes, .inl (cL, 64, .inr (.inl u.2.1))), (h_a_placeLengths, .inl (cI, 64, .inl u.2.2))] t.heap ∧ va_D A [(h_a, .inr (4, [.int a_thrown, .int a_count, .ref h_a_names, .ref h_a_lengths, .ref h_a_serials, .ref h_a_targets, .int a_latest, .long a_hand, .int a_handLength, .int a_foundSerial, .int a_rows, .ref h_a_rowBytes, .ref h_a_rowLengths, .int u.1, .ref h_a_placeBytes, .ref h_a_placeLengths, .int a_off, .int a_left, .int a_made])), (h_a_placeBytes, .inl (cL, 64, .inr (.inl u.2.1))), (h_a_placeLengths, .inl (cI, 64, .inl u.2.2))]) A) ([.ref h_a, .long x0, .int x1] : List Value).toArray s 0 0 A) (F0 m pc ls []) := by
    intro pc ls H locs hd hP9 hD9 hS
    exact W.vret hx hb hr (fun t ht hW => ⟨⟨(), rfl, trivial, by rw [ht]; exact hP9, hD9⟩, hS.F ht⟩) hS.2.2 hd
  generalize (MQ below (va_Qv (fun _ : Unit => True) (fun _ t => va_P (dC, dI) zCl [(h_a, .inr (4, [.int a_thrown, .int a_count, .ref h_a_names, .ref h_a_lengths, .ref h_a_serials, .ref h_a_targets, .int a_latest, .long a_hand, .int a_handLength, .int a_foundSerial, .int a_rows, .ref h_a_rowBytes, .ref h_a_rowLengths, .int u.1, .ref h_a_placeBytes, .ref h_a_placeLengths, .int a_off, .int a_left, .int a_made])), (h_a_placeBytes, .inl (cL, 64, .inr (.inl u.2.1))), (h_a_placeLengths, .inl (cI, 64, .inl u.2.2))] t.heap ∧ va_D A [(h_a, .inr (4, [.int a_thrown, .int a_count, .ref h_a_names, .ref h_a_lengths, .ref h_a_serials, .ref h_a_targets, .int a_latest, .long a_hand, .int a_handLength, .int a_foundSerial, .int a_rows, .ref h_a_rowBytes, .ref h_a_rowLengths, .int u.1, .ref h_a_placeBytes, .ref h_a_placeLengths, .int a_off, .int a_left, .int a_made])), (h_a_placeBytes, .inl (cL, 64, .inr (.inl u.2.1))), (h_a_placeLengths, .inl (cI, 64, .inl u.2.2))]) A) ([.ref h_a, .long x0, .int x1] : List Value).toArray s 0 0 A) = Q at KR ⊢
  have L3 : ∀ (n : Nat) (l4 : Int32) (ls : Array Slot) (H : Heap) (locs : List Loc), lv_has ls 5 [(0, .ref h_a), (1, .long x0), (3, .int x1), (4, .int l4)] → va_P (dC, dI) zCl [(h_a, .inr (4, [.int a_thrown, .int a_count, .ref h_a_names, .ref h_a_lengths, .ref h_a_serials, .ref h_a_targets, .int a_latest, .long a_hand, .int a_handLength, .int a_foundSerial, .int a_rows, .ref h_a_rowBytes, .ref h_a_rowLengths, .int a_places, .ref h_a_placeBytes, .ref h_a_placeLengths, .int a_off, .int a_left, .int a_made])), (h_a_placeBytes, .inl (cL, 64, .inr (.inl a_placeBytes))), (h_a_placeLengths, .inl (cI, 64, .inl a_placeLengths))] H → va_D A [(h_a, .inr (4, [.int a_thrown, .int a_count, .ref h_a_names, .ref h_a_lengths, .ref h_a_serials, .ref h_a_targets, .int a_latest, .long a_hand, .int a_handLength, .int a_foundSerial, .int a_rows, .ref h_a_rowBytes, .ref h_a_rowLengths, .int a_places, .ref h_a_placeBytes, .ref h_a_placeLengths, .int a_off, .int a_left, .int a_made])), (h_a_placeBytes, .inl (cL, 64, .inr (.inl a_placeBytes))), (h_a_placeLengths, .inl (cI, 64, .inl a_placeLengths))] → va_S A s.heap H locs → m_M_lay_l3 x0 x1 a_placeBytes a_placeLengths a_places n l4 = some u → W p l e (headSpec zw_Mod_lay ({ frames := 0, cells := 0, slots := 0, locals := 0 })).room s m ([.ref h_a, .long x0, .int x1] : List Value).toArray below meth c H locs 0 0 Q (F0 m 3 ls []) := by
    intro n
    induction n with
    | zero =>
      intro l4 ls H locs hl hP hD hS hm
      rw [m_M_lay_l3] at hm
      cases hm
    | succ n ih =>
      intro l4 ls H locs hl hP hD hS hm
      rw [m_M_lay_l3] at hm
      refine lv_iload hx hb zd_Mod_lay_3 (lv_at hl 3 rfl) ?_
      refine lv_aload_n hx hb zd_Mod_lay_5 rfl (lv_at hl 0 rfl) ?_
      refine va_get (D := (dC, dI)) (ci := 4) (v := .int a_places) (C := zR_Mod) (T := zT_Mod) (N := 19) hx hb hts zu_Mod hown hK hP 0 rfl rfl 13 (by decide) (hts _ wk425) (fun _ h9 => h9) rfl zd_Mod_lay_6 ?_
      refine lv_icmp_ge (tgt := 42) hx hb zd_Mod_lay_9 (by decide) (fun hc => ?_) (fun hc => ?_)
      · rw [if_pos hc] at hm
        refine lv_aload_n hx hb zd_Mod_lay_42 rfl (lv_at hl 0 rfl) ?_
        refine va_get (D := (dC, dI)) (ci := 4) (v := .ref h_a_placeBytes) (C := zR_Mod) (T := zT_Mod) (N := 19) hx hb hts zu_Mod hown hK hP 0 rfl rfl 14 (by decide) (hts _ wk405) (fun _ h9 => h9) rfl zd_Mod_lay_43 ?_
        refine lv_aload_n hx hb zd_Mod_lay_46 rfl (lv_at hl 0 rfl) ?_
        refine va_get (D := (dC, dI)) (ci := 4) (v := .int a_places) (C := zR_Mod) (T := zT_Mod) (N := 19) hx hb hts zu_Mod hown hK hP 0 rfl rfl 13 (by decide) (hts _ wk425) (fun _ h9 => h9) rfl zd_Mod_lay_47 ?_
        refine lv_lload_n hx hb zd_Mod_lay_50 rfl (lv_at hl 1 rfl) ?_
        by_cases hi : a_places < 0 ∨ 64 ≤ a_places.toNatClampNeg
        · rw [if_pos hi] at hm; cases hm
        rw [if_neg hi] at hm
        refine va_last hx hb hK hP hD hS 1 0 rfl rfl hi zd_Mod_lay_51 (fun H locs hP hD hS => ?_)
        have hP : va_P (dC, dI) zCl [(h_a, .inr (4, [.int a_thrown, .int a_count, .ref h_a_names, .ref h_a_lengths, .ref h_a_serials, .ref h_a_targets, .int a_latest, .long a_hand, .int a_handLength, .int a_foundSerial, .int a_rows, .ref h_a_rowBytes, .ref h_a_rowLengths, .int a_places, .ref h_a_placeBytes, .ref h_a_placeLengths, .int a_off, .int a_left, .int a_made])), (h_a_placeBytes, .inl (cL, 64, .inr (.inl ((vp_updL a_placeBytes a_places.toNatClampNeg x0))))), (h_a_placeLengths, .inl (cI, 64, .inl a_placeLengths))] H := hP
        have hD : va_D A [(h_a, .inr (4, [.int a_thrown, .int a_count, .ref h_a_names, .ref h_a_lengths, .ref h_a_serials, .ref h_a_targets, .int a_latest, .long a_hand, .int a_handLength, .int a_foundSerial, .int a_rows, .ref h_a_rowBytes, .ref h_a_rowLengths, .int a_places, .ref h_a_placeBytes, .ref h_a_placeLengths, .int a_off, .int a_left, .int a_made])), (h_a_placeBytes, .inl (cL, 64, .inr (.inl ((vp_updL a_placeBytes a_places.toNatClampNeg x0))))), (h_a_placeLengths, .inl (cI, 64, .inl a_placeLengths))] := hD
        refine lv_aload_n hx hb zd_Mod_lay_52 rfl (lv_at hl 0 rfl) ?_
        refine va_get (D := (dC, dI)) (ci := 4) (v := .ref h_a_placeLengths) (C := zR_Mod) (T := zT_Mod) (N := 19) hx hb hts zu_Mod hown hK hP 0 rfl rfl 15 (by decide) (hts _ wk406) (fun _ h9 => h9) rfl zd_Mod_lay_53 ?_
        refine lv_aload_n hx hb zd_Mod_lay_56 rfl (lv_at hl 0 rfl) ?_
        refine va_get (D := (dC, dI)) (ci := 4) (v := .int a_places) (C := zR_Mod) (T := zT_Mod) (N := 19) hx hb hts zu_Mod hown hK hP 0 rfl rfl 13 (by decide) (hts _ wk425) (fun _ h9 => h9) rfl zd_Mod_lay_57 ?_
        refine lv_iload_n hx hb zd_Mod_lay_60 rfl (lv_at hl 2 rfl) ?_
        by_cases hi : a_places < 0 ∨ 64 ≤ a_places.toNatClampNeg
        · rw [if_pos hi] at hm; cases hm
        rw [if_neg hi] at hm
        refine va_iast hx hb hK hP hD hS 2 1 rfl rfl hi zd_Mod_lay_61 (fun H locs hP hD hS => ?_)
        have hP : va_P (dC, dI) zCl [(h_a, .inr (4, [.int a_thrown, .int a_count, .ref h_a_names, .ref h_a_lengths, .ref h_a_serials, .ref h_a_targets, .int a_latest, .long a_hand, .int a_handLength, .int a_foundSerial, .int a_rows, .ref h_a_rowBytes, .ref h_a_rowLengths, .int a_places, .ref h_a_placeBytes, .ref h_a_placeLengths, .int a_off, .int a_left, .int a_made])), (h_a_placeBytes, .inl (cL, 64, .inr (.inl ((vp_updL a_placeBytes a_places.toNatClampNeg x0))))), (h_a_placeLengths, .inl (cI, 64, .inl ((upd a_placeLengths a_places.toNatClampNeg x1))))] H := hP
        have hD : va_D A [(h_a, .inr (4, [.int a_thrown, .int a_count, .ref h_a_names, .ref h_a_lengths, .ref h_a_serials, .ref h_a_targets, .int a_latest, .long a_hand, .int a_handLength, .int a_foundSerial, .int a_rows, .ref h_a_rowBytes, .ref h_a_rowLengths, .int a_places, .ref h_a_placeBytes, .ref h_a_placeLengths, .int a_off, .int a_left, .int a_made])), (h_a_placeBytes, .inl (cL, 64, .inr (.inl ((vp_updL a_placeBytes a_places.toNatClampNeg x0))))), (h_a_placeLengths, .inl (cI, 64, .inl ((upd a_placeLengths a_places.toNatClampNeg x1))))] := hD
        refine lv_aload_n hx hb zd_Mod_lay_62 rfl (lv_at hl 0 rfl) ?_
        refine lv_dup hx hb zd_Mod_lay_63 rfl ?_
        refine va_get (D := (dC, dI)) (ci := 4) (v := .int a_places) (C := zR_Mod) (T := zT_Mod) (N := 19) hx hb hts zu_Mod hown hK hP 0 rfl rfl 13 (by decide) (hts _ wk425) (fun _ h9 => h9) rfl zd_Mod_lay_64 ?_
        refine lv_iconst (v := 1) hx hb zd_Mod_lay_67 (by decide) ?_
        refine lv_iadd hx hb zd_Mod_lay_68 ?_
        refine va_put (D := (dC, dI)) (ci := 4) (v := .int ((a_places + 1))) (ty := .int) (C := zR_Mod) (T := zT_Mod) (N := 19) hx hb hts zu_Mod zt_Mod zt_Mod_ok zn_Mod hown hK hP hD hS 0 rfl rfl 13 (by decide) (hts _ wk425) (fun _ h9 => h9) rfl (by decide +kernel) rfl rfl (Nat.le_of_ble_eq_true rfl) zd_Mod_lay_69 (fun H locs hP hD hS => ?_)
        have hP : va_P (dC, dI) zCl [(h_a, .inr (4, [.int a_thrown, .int a_count, .ref h_a_names, .ref h_a_lengths, .ref h_a_serials, .ref h_a_targets, .int a_latest, .long a_hand, .int a_handLength, .int a_foundSerial, .int a_rows, .ref h_a_rowBytes, .ref h_a_rowLengths, .int ((a_places + 1)), .ref h_a_placeBytes, .ref h_a_placeLengths, .int a_off, .int a_left, .int a_made])), (h_a_placeBytes, .inl (cL, 64, .inr (.inl ((vp_updL a_placeBytes a_places.toNatClampNeg x0))))), (h_a_placeLengths, .inl (cI, 64, .inl ((upd a_placeLengths a_places.toNatClampNeg x1))))] H := hP
        have hD : va_D A [(h_a, .inr (4, [.int a_thrown, .int a_count, .ref h_a_names, .ref h_a_lengths, .ref h_a_serials, .ref h_a_targets, .int a_latest, .long a_hand, .int a_handLength, .int a_foundSerial, .int a_rows, .ref h_a_rowBytes, .ref h_a_rowLengths, .int ((a_places + 1)), .ref h_a_placeBytes, .ref h_a_placeLengths, .int a_off, .int a_left, .int a_made])), (h_a_placeBytes, .inl (cL, 64, .inr (.inl ((vp_updL a_placeBytes a_places.toNatClampNeg x0))))), (h_a_placeLengths, .inl (cI, 64, .inl ((upd a_placeLengths a_places.toNatClampNeg x1))))] := hD
        obtain rfl := Option.some.inj hm
        exact KR 72 ls _ _ zd_Mod_lay_72 hP hD hS
      · rw [if_neg hc] at hm
        refine lv_aload_n hx hb zd_Mod_lay_12 rfl (lv_at hl 0 rfl) ?_
        refine va_get (D := (dC, dI)) (ci := 4) (v := .ref h_a_placeBytes) (C := zR_Mod) (T := zT_Mod) (N := 19) hx hb hts zu_Mod hown hK hP 0 rfl rfl 14 (by decide) (hts _ wk405) (fun _ h9 => h9) rfl zd_Mod_lay_13 ?_
        refine lv_iload hx hb zd_Mod_lay_16 (lv_at hl 3 rfl) ?_
        by_cases hi : l4 < 0 ∨ 64 ≤ l4.toNatClampNeg
        · rw [if_pos hi] at hm; cases hm
        rw [if_neg hi] at hm
        refine va_lald hx hb hK hP 1 0 rfl rfl hi zd_Mod_lay_18 ?_
        refine lv_lload_n hx hb zd_Mod_lay_19 rfl (lv_at hl 1 rfl) ?_
        refine W.lcmp hx hb zd_Mod_lay_20 ?_
        refine lv_if_ne (tgt := 36) hx hb zd_Mod_lay_21 (by decide) (fun hc => ?_) (fun hc => ?_)
        · rw [if_neg hc] at hm
          refine lv_iinc (k := 3) (v := (l4 + 1)) (lv' := [(4, .int ((l4 + 1))), (0, .ref h_a), (1, .long x0), (3, .int x1)]) hx hb zd_Mod_lay_36 hl rfl rfl (by decide) rfl (fun ls hl => ?_)
          refine lv_goto (tgt := 3) hx hb zd_Mod_lay_39 (by decide) ?_
          exact ih ((l4 + 1)) ls H locs (lv_sub hl [1, 2, 3, 0] rfl) hP hD hS hm
        · rw [if_pos hc] at hm
          refine lv_aload_n hx hb zd_Mod_lay_24 rfl (lv_at hl 0 rfl) ?_
          refine va_get (D := (dC, dI)) (ci := 4) (v := .ref h_a_placeLengths) (C := zR_Mod) (T := zT_Mod) (N := 19) hx hb hts zu_Mod hown hK hP 0 rfl rfl 15 (by decide) (hts _ wk406) (fun _ h9 => h9) rfl zd_Mod_lay_25 ?_
          refine lv_iload hx hb zd_Mod_lay_28 (lv_at hl 3 rfl) ?_
          by_cases hi : l4 < 0 ∨ 64 ≤ l4.toNatClampNeg
          · rw [if_pos hi] at hm; cases hm
          rw [if_neg hi] at hm
          refine va_iald hx hb hK hP 2 1 rfl rfl hi zd_Mod_lay_30 ?_
          refine lv_iload_n hx hb zd_Mod_lay_31 rfl (lv_at hl 2 rfl) ?_
          refine lv_icmp_ne (tgt := 36) hx hb zd_Mod_lay_32 (by decide) (fun hc => ?_) (fun hc => ?_)
          · rw [if_neg hc] at hm
            refine lv_iinc (k := 3) (v := (l4 + 1)) (lv' := [(4, .int ((l4 + 1))), (0, .ref h_a), (1, .long x0), (3, .int x1)]) hx hb zd_Mod_lay_36 hl rfl rfl (by decide) rfl (fun ls hl => ?_)
            refine lv_goto (tgt := 3) hx hb zd_Mod_lay_39 (by decide) ?_
            exact ih ((l4 + 1)) ls H locs (lv_sub hl [1, 2, 3, 0] rfl) hP hD hS hm
          · rw [if_pos hc] at hm
            obtain rfl := Option.some.inj hm
            exact KR 35 ls _ _ zd_Mod_lay_35 hP hD hS
  unfold m_M_lay at hm
  refine lv_iconst (v := 0) hx hb zd_Mod_lay_0 (by decide) ?_
  refine lv_istore (lv' := [(4, .int 0), (0, .ref h_a), (1, .long x0), (3, .int x1)]) hx hb zd_Mod_lay_1 hl (by decide) rfl (fun ls hl => ?_)
  exact L3 100 0 ls _ _ (lv_sub hl [1, 2, 3, 0] rfl) hP hD hS hm
set_option maxHeartbeats 4000000 in
set_option maxRecDepth 100000 in
theorem c_M_layPlaces (l : Launch) (dC : Nat → ClassId) (dI : Nat → Nat → Nat) (cL cI : ClassId) (h_a h_a_names h_a_lengths h_a_serials h_a_targets h_a_rowBytes h_a_rowLengths h_a_placeBytes h_a_placeLengths : Nat) (sz : Nat) (a_thrown : Int32) (a_count : Int32) (a_names : Nat → Int64) (a_lengths : Nat → Int32) (a_serials : Nat → Int32) (a_targets : Nat → Int32) (a_latest : Int32) (a_hand : Int64) (a_handLength : Int32) (a_foundSerial : Int32) (a_rows : Int32) (a_rowBytes : Nat → Int64) (a_rowLengths : Nat → Int32) (a_places : Int32) (a_placeBytes : Nat → Int64) (a_placeLengths : Nat → Int32) (a_off : Int32) (a_left : Int32) (a_made : Int32) (u : Int32 × (Nat → Int64) × (Nat → Int32)) (hm : m_M_layPlaces a_rows a_rowBytes a_rowLengths a_placeBytes a_placeLengths = some u) : Met l zy_Mod_layPlaces zw_Mod_layPlaces ({ frames := 1, cells := 0, slots := 0, locals := 26 }) (va_Pc [.ref h_a] (fun U => U.heap.size = sz ∧ va_P (dC, dI) zCl [(h_a, .inr (4, [.int a_thrown, .int a_count, .ref h_a_names, .ref h_a_lengths, .ref h_a_serials, .ref h_a_targets, .int a_latest, .long a_hand, .int a_handLength, .int a_foundSerial, .int a_rows, .ref h_a_rowBytes, .ref h_a_rowLengths, .int a_places, .ref h_a_placeBytes, .ref h_a_placeLengths, .int a_off, .int a_left, .int a_made])), (h_a_rowBytes, .inl (cL, 25, .inr (.inl a_rowBytes))), (h_a_rowLengths, .inl (cI, 25, .inl a_rowLengths)), (h_a_placeBytes, .inl (cL, 64, .inr (.inl a_placeBytes))), (h_a_placeLengths, .inl (cI, 64, .inl a_placeLengths))] U.heap ∧ va_K (dC, dI) zCl [(cL, .long), (cI, .int)] U ∧ va_D (fun _ => True) [(h_a, .inr (4, [.int a_thrown, .int a_count, .ref h_a_names, .ref h_a_lengths, .ref h_a_serials, .ref h_a_targets, .int a_latest, .long a_hand, .int a_handLength, .int a_foundSerial, .int a_rows, .ref h_a_rowBytes, .ref h_a_rowLengths, .int a_places, .ref h_a_placeBytes, .ref h_a_placeLengths, .int a_off, .int a_left, .int a_made])), (h_a_rowBytes, .inl (cL, 25, .inr (.inl a_rowBytes))), (h_a_rowLengths, .inl (cI, 25, .inl a_rowLengths)), (h_a_placeBytes, .inl (cL, 64, .inr (.inl a_placeBytes))), (h_a_placeLengths, .inl (cI, 64, .inl a_placeLengths))])) (va_Qv (fun _ : Unit => True) (fun _ t => va_P (dC, dI) zCl [(h_a, .inr (4, [.int a_thrown, .int a_count, .ref h_a_names, .ref h_a_lengths, .ref h_a_serials, .ref h_a_targets, .int a_latest, .long a_hand, .int a_handLength, .int a_foundSerial, .int a_rows, .ref h_a_rowBytes, .ref h_a_rowLengths, .int u.1, .ref h_a_placeBytes, .ref h_a_placeLengths, .int a_off, .int a_left, .int a_made])), (h_a_rowBytes, .inl (cL, 25, .inr (.inl a_rowBytes))), (h_a_rowLengths, .inl (cI, 25, .inl a_rowLengths)), (h_a_placeBytes, .inl (cL, 64, .inr (.inl u.2.1))), (h_a_placeLengths, .inl (cI, 64, .inl u.2.2))] t.heap ∧ va_D (va_A [(h_a, .inr (4, [.int a_thrown, .int a_count, .ref h_a_names, .ref h_a_lengths, .ref h_a_serials, .ref h_a_targets, .int a_latest, .long a_hand, .int a_handLength, .int a_foundSerial, .int a_rows, .ref h_a_rowBytes, .ref h_a_rowLengths, .int a_places, .ref h_a_placeBytes, .ref h_a_placeLengths, .int a_off, .int a_left, .int a_made])), (h_a_rowBytes, .inl (cL, 25, .inr (.inl a_rowBytes))), (h_a_rowLengths, .inl (cI, 25, .inl a_rowLengths)), (h_a_placeBytes, .inl (cL, 64, .inr (.inl a_placeBytes))), (h_a_placeLengths, .inl (cI, 64, .inl a_placeLengths))] sz) [(h_a, .inr (4, [.int a_thrown, .int a_count, .ref h_a_names, .ref h_a_lengths, .ref h_a_serials, .ref h_a_targets, .int a_latest, .long a_hand, .int a_handLength, .int a_foundSerial, .int a_rows, .ref h_a_rowBytes, .ref h_a_rowLengths, .int u.1, .ref h_a_placeBytes, .ref h_a_placeLengths, .int a_off, .int a_left, .int a_made])), (h_a_rowBytes, .inl (cL, 25, .inr (.inl a_rowBytes))), (h_a_rowLengths, .inl (cI, 25, .inl a_rowLengths)), (h_a_placeBytes, .inl (cL, 64, .inr (.inl u.2.1))), (h_a_placeLengths, .inl (cI, 64, .inl u.2.2))]) (va_A [(h_a, .inr (4, [.int a_thrown, .int a_count, .ref h_a_names, .ref h_a_lengths, .ref h_a_serials, .ref h_a_targets, .int a_latest, .long a_hand, .int a_handLength, .int a_foundSerial, .int a_rows, .ref h_a_rowBytes, .ref h_a_rowLengths, .int a_places, .ref h_a_placeBytes, .ref h_a_placeLengths, .int a_off, .int a_left, .int a_made])), (h_a_rowBytes, .inl (cL, 25, .inr (.inl a_rowBytes))), (h_a_rowLengths, .inl (cI, 25, .inl a_rowLengths)), (h_a_placeBytes, .inl (cL, 64, .inr (.inl a_placeBytes))), (h_a_placeLengths, .inl (cI, 64, .inl a_placeLengths))] sz)) 0 0 (va_A [(h_a, .inr (4, [.int a_thrown, .int a_count, .ref h_a_names, .ref h_a_lengths, .ref h_a_serials, .ref h_a_targets, .int a_latest, .long a_hand, .int a_handLength, .int a_foundSerial, .int a_rows, .ref h_a_rowBytes, .ref h_a_rowLengths, .int a_places, .ref h_a_placeBytes, .ref h_a_placeLengths, .int a_off, .int a_left, .int a_made])), (h_a_rowBytes, .inl (cL, 25, .inr (.inl a_rowBytes))), (h_a_rowLengths, .inl (cI, 25, .inl a_rowLengths)), (h_a_placeBytes, .inl (cL, 64, .inr (.inl a_placeBytes))), (h_a_placeLengths, .inl (cI, 64, .inl a_placeLengths))] sz) := by
  refine Met.ofW (cc := zc_Mod_layPlaces) (maxL := 4) (ret := none) (by decide) rfl ?_
  intro p e s m args below meth c s₁ B hml hv
  obtain ⟨rfl, hsz, hP, hK, hD0⟩ := hv
  have hx := B.exec
  have hb := B.bytes
  have hr := B.returns
  have hts0 := atoms_spec (ws := zw_Mod_layPlaces) B.pre
  have hts : ∀ w ∈ WSg, w.before _ s = true := fun w h => hts0 w (List.mem_cons_of_mem _ h)
  clear hts0
  have hown : s.vm.findClass zR_Mod = some m.cls := findClass_of_methodNamed B.named
  have hlocks := B.notSynchronized
  subst hsz
  have hD := hD0.self (sz := s.heap.size)
  generalize hAe : va_A [(h_a, .inr (4, [.int a_thrown, .int a_count, .ref h_a_names, .ref h_a_lengths, .ref h_a_serials, .ref h_a_targets, .int a_latest, .long a_hand, .int a_handLength, .int a_foundSerial, .int a_rows, .ref h_a_rowBytes, .ref h_a_rowLengths, .int a_places, .ref h_a_placeBytes, .ref h_a_placeLengths, .int a_off, .int a_left, .int a_made])), (h_a_rowBytes, .inl (cL, 25, .inr (.inl a_rowBytes))), (h_a_rowLengths, .inl (cI, 25, .inl a_rowLengths)), (h_a_placeBytes, .inl (cL, 64, .inr (.inl a_placeBytes))), (h_a_placeLengths, .inl (cI, 64, .inl a_placeLengths))] s.heap.size = A at hD ⊢
  have hA : ∀ q : Nat, s.heap.size ≤ q → A q := fun q h => by rw [← hAe]; exact Or.inr h
  have hS : va_S A s.heap s.heap [] := va_S.rf
  have hP : va_P (dC, dI) zCl [(h_a, .inr (4, [.int a_thrown, .int a_count, .ref h_a_names, .ref h_a_lengths, .ref h_a_serials, .ref h_a_targets, .int a_latest, .long a_hand, .int a_handLength, .int a_foundSerial, .int a_rows, .ref h_a_rowBytes, .ref h_a_rowLengths, .int a_places, .ref h_a_placeBytes, .ref h_a_placeLengths, .int a_off, .int a_left, .int a_made])), (h_a_rowBytes, .inl (cL, 25, .inr (.inl a_rowBytes))), (h_a_rowLengths, .inl (cI, 25, .inl a_rowLengths)), (h_a_placeBytes, .inl (cL, 64, .inr (.inl a_placeBytes))), (h_a_placeLengths, .inl (cI, 64, .inl a_placeLengths))] s.heap := hP
  have hl := lv_entry ([.ref h_a]) (n := 4) (Nat.le_of_ble_eq_true rfl)
  rw [lg_entry_eq]
  generalize (lg_sl ([.ref h_a]) ++ List.replicate (4 - (lg_sl ([.ref h_a])).length) Slot.unset).toArray = ls at hl ⊢
  have hl : lv_has ls 4 [(0, .ref h_a)] := hl
  have KR : ∀ (pc : Nat) (ls : Array Slot) (H : Heap) (locs : List Loc), decode zc_Mod_layPlaces pc = .ok (.return_, 1) → va_P (dC, dI) zCl [(h_a, .inr (4, [.int a_thrown, .int a_count, .ref h_a_names, .ref h_a_lengths, .ref h_a_serials, .ref h_a_targets, .int a_latest, .long a_hand, .int a_handLength, .int a_foundSerial, .int a_rows, .ref h_a_rowBytes, .ref h_a_rowLengths, .int u.1, .ref h_a_placeBytes, .ref h_a_placeLengths, .int a_off, .int a_left, .int a_made])), (h_a_rowBytes, .inl (cL, 25, .inr (.inl a_rowBytes))), (h_a_rowLengths, .inl (cI, 25, .inl a_rowLengths)), (h_a_placeBytes, .inl (cL, 64, .inr (.inl u.2.1))), (h_a_placeLengths, .inl (cI, 64, .inl u.2.2))] H → va_D A [(h_a, .inr (4, [.int a_thrown, .int a_count, .ref h_a_names, .ref h_a_lengths, .ref h_a_serials, .ref h_a_targets, .int a_latest, .long a_hand, .int a_handLength, .int a_foundSerial, .int a_rows, .ref h_a_rowBytes, .ref h_a_rowLengths, .int u.1, .ref h_a_placeBytes, .ref h_a_placeLengths, .int a_off, .int a_left, .int a_made])), (h_a_rowBytes, .inl (cL, 25, .inr (.inl a_rowBytes))), (h_a_rowLengths, .inl (cI, 25, .inl a_rowLengths)), (h_a_placeBytes, .inl (cL, 64, .inr (.inl u.2.1))), (h_a_placeLengths, .inl (cI, 64, .inl u.2.2))] → va_S A s.heap H locs → W p l e (headSpec zw_Mod_layPlaces ({ frames := 1, cells := 0, slots := 0, locals := 26 })).room s m ([.ref h_a] : List Value).toArray below meth c H locs 0 0 (MQ below (va_Qv (fun _ : Unit => True) (fun _ t => va_P (dC, dI) zCl [(h_a, .inr (4, [.int a_thrown, .int a_count, .ref h_a_names, .ref h_a_lengths, .ref h_a_serials, .ref h_a_targets, .int a_latest, .long a_hand, .int a_handLength, .int a_foundSerial, .int a_rows, .ref h_a_rowBytes, .ref h_a_rowLengths, .int u.1, .ref h_a_placeBytes, .ref h_a_placeLengths, .int a_off, .int a_left, .int a_made])), (h_a_rowBytes, .inl (cL, 25, .inr (.inl a_rowBytes))), (h_a_rowLengths, .inl (cI, 25, .inl a_rowLengths)), (h_a_placeBytes, .inl (cL, 64, .inr (.inl u.2.1))), (h_a_placeLengths, .inl (cI, 64, .inl u.2.2))] t.heap ∧ va_D A [(h_a, .inr (4, [.int a_thrown, .int a_count, .ref h_a_names, .ref h_a_lengths, .ref h_a_serials, .ref h_a_targets, .int a_latest, .long a_hand, .int a_handLength, .int a_foundSerial, .int a_rows, .ref h_a_rowBytes, .ref h_a_rowLengths, .int u.1, .ref h_a_placeBytes, .ref h_a_placeLengths, .int a_off, .int a_left, .int a_made])), (h_a_rowBytes, .inl (cL, 25, .inr (.inl a_rowBytes))), (h_a_rowLengths, .inl (cI, 25, .inl a_rowLengths)), (h_a_placeBytes, .inl (cL, 64, .inr (.inl u.2.1))), (h_a_placeLengths, .inl (cI, 64, .inl u.2.2))]) A) ([.ref h_a] : List Value).toArray s 0 0 A) (F0 m pc ls []) := by
    intro pc ls H locs hd hP9 hD9 hS
    exact W.vret hx hb hr (fun t ht hW => ⟨⟨(), rfl, trivial, by rw [ht]; exact hP9, hD9⟩, hS.F ht⟩) hS.2.2 hd
  generalize (MQ below (va_Qv (fun _ : Unit => True) (fun _ t => va_P (dC, dI) zCl [(h_a, .inr (4, [.int a_thrown, .int a_count, .ref h_a_names, .ref h_a_lengths, .ref h_a_serials, .ref h_a_targets, .int a_latest, .long a_hand, .int a_handLength, .int a_foundSerial, .int a_rows, .ref h_a_rowBytes, .ref h_a_rowLengths, .int u.1, .ref h_a_placeBytes, .ref h_a_placeLengths, .int a_off, .int a_left, .int a_made])), (h_a_rowBytes, .inl (cL, 25, .inr (.inl a_rowBytes))), (h_a_rowLengths, .inl (cI, 25, .inl a_rowLengths)), (h_a_placeBytes, .inl (cL, 64, .inr (.inl u.2.1))), (h_a_placeLengths, .inl (cI, 64, .inl u.2.2))] t.heap ∧ va_D A [(h_a, .inr (4, [.int a_thrown, .int a_count, .ref h_a_names, .ref h_a_lengths, .ref h_a_serials, .ref h_a_targets, .int a_latest, .long a_hand, .int a_handLength, .int a_foundSerial, .int a_rows, .ref h_a_rowBytes, .ref h_a_rowLengths, .int u.1, .ref h_a_placeBytes, .ref h_a_placeLengths, .int a_off, .int a_left, .int a_made])), (h_a_rowBytes, .inl (cL, 25, .inr (.inl a_rowBytes))), (h_a_rowLengths, .inl (cI, 25, .inl a_rowLengths)), (h_a_placeBytes, .inl (cL, 64, .inr (.inl u.2.1))), (h_a_placeLengths, .inl (cI, 64, .inl u.2.2))]) A) ([.ref h_a] : List Value).toArray s 0 0 A) = Q at KR ⊢
  have L39 : ∀ (n : Nat) (l1 : Int32) (l2 : Int32) (a_names : Nat → Int64) (a_lengths : Nat → Int32) (a_serials : Nat → Int32) (a_targets : Nat → Int32) (a_rowBytes : Nat → Int64) (a_rowLengths : Nat → Int32) (a_placeBytes : Nat → Int64) (a_placeLengths : Nat → Int32) (a_thrown : Int32) (a_count : Int32) (a_latest : Int32) (a_hand : Int64) (a_handLength : Int32) (a_foundSerial : Int32) (a_rows : Int32) (a_places : Int32) (a_off : Int32) (a_left : Int32) (a_made : Int32) (ls : Array Slot) (H : Heap) (locs : List Loc) (uu : (Int32 × (Nat → Int64) × (Nat → Int32) × Int32)), lv_has ls 4 [(0, .ref h_a), (1, .int l1), (2, .int l2)] → va_P (dC, dI) zCl [(h_a, .inr (4, [.int a_thrown, .int a_count, .ref h_a_names, .ref h_a_lengths, .ref h_a_serials, .ref h_a_targets, .int a_latest, .long a_hand, .int a_handLength, .int a_foundSerial, .int a_rows, .ref h_a_rowBytes, .ref h_a_rowLengths, .int a_places, .ref h_a_placeBytes, .ref h_a_placeLengths, .int a_off, .int a_left, .int a_made])), (h_a_rowBytes, .inl (cL, 25, .inr (.inl a_rowBytes))), (h_a_rowLengths, .inl (cI, 25, .inl a_rowLengths)), (h_a_placeBytes, .inl (cL, 64, .inr (.inl a_placeBytes))), (h_a_placeLengths, .inl (cI, 64, .inl a_placeLengths))] H → va_D A [(h_a, .inr (4, [.int a_thrown, .int a_count, .ref h_a_names, .ref h_a_lengths, .ref h_a_serials, .ref h_a_targets, .int a_latest, .long a_hand, .int a_handLength, .int a_foundSerial, .int a_rows, .ref h_a_rowBytes, .ref h_a_rowLengths, .int a_places, .ref h_a_placeBytes, .ref h_a_placeLengths, .int a_off, .int a_left, .int a_made])), (h_a_rowBytes, .inl (cL, 25, .inr (.inl a_rowBytes))), (h_a_rowLengths, .inl (cI, 25, .inl a_rowLengths)), (h_a_placeBytes, .inl (cL, 64, .inr (.inl a_placeBytes))), (h_a_placeLengths, .inl (cI, 64, .inl a_placeLengths))] → va_S A s.heap H locs → m_M_layPlaces_l39 l1 a_rowBytes a_rowLengths n l2 a_placeBytes a_placeLengths a_places = some uu → (∀ (ls : Array Slot) (H : Heap) (locs : List Loc), lv_has ls 4 [(0, .ref h_a), (1, .int l1), (2, .int uu.1)] → va_P (dC, dI) zCl [(h_a, .inr (4, [.int a_thrown, .int a_count, .ref h_a_names, .ref h_a_lengths, .ref h_a_serials, .ref h_a_targets, .int a_latest, .long a_hand, .int a_handLength, .int a_foundSerial, .int a_rows, .ref h_a_rowBytes, .ref h_a_rowLengths, .int uu.2.2.2, .ref h_a_placeBytes, .ref h_a_placeLengths, .int a_off, .int a_left, .int a_made])), (h_a_rowBytes, .inl (cL, 25, .inr (.inl a_rowBytes))), (h_a_rowLengths, .inl (cI, 25, .inl a_rowLengths)), (h_a_placeBytes, .inl (cL, 64, .inr (.inl uu.2.1))), (h_a_placeLengths, .inl (cI, 64, .inl uu.2.2.1))] H → va_D A [(h_a, .inr (4, [.int a_thrown, .int a_count, .ref h_a_names, .ref h_a_lengths, .ref h_a_serials, .ref h_a_targets, .int a_latest, .long a_hand, .int a_handLength, .int a_foundSerial, .int a_rows, .ref h_a_rowBytes, .ref h_a_rowLengths, .int uu.2.2.2, .ref h_a_placeBytes, .ref h_a_placeLengths, .int a_off, .int a_left, .int a_made])), (h_a_rowBytes, .inl (cL, 25, .inr (.inl a_rowBytes))), (h_a_rowLengths, .inl (cI, 25, .inl a_rowLengths)), (h_a_placeBytes, .inl (cL, 64, .inr (.inl uu.2.1))), (h_a_placeLengths, .inl (cI, 64, .inl uu.2.2.1))] → va_S A s.heap H locs → W p l e (headSpec zw_Mod_layPlaces ({ frames := 1, cells := 0, slots := 0, locals := 26 })).room s m ([.ref h_a] : List Value).toArray below meth c H locs 0 0 Q (F0 m 93 ls [])) → W p l e (headSpec zw_Mod_layPlaces ({ frames := 1, cells := 0, slots := 0, locals := 26 })).room s m ([.ref h_a] : List Value).toArray below meth c H locs 0 0 Q (F0 m 39 ls []) := by
    intro n
    induction n with
    | zero =>
      intro l1 l2 a_names a_lengths a_serials a_targets a_rowBytes a_rowLengths a_placeBytes a_placeLengths a_thrown a_count a_latest a_hand a_handLength a_foundSerial a_rows a_places a_off a_left a_made ls H locs uu hl hP hD hS hm K
      rw [m_M_layPlaces_l39] at hm
      cases hm
    | succ n ih =>
      intro l1 l2 a_names a_lengths a_serials a_targets a_rowBytes a_rowLengths a_placeBytes a_placeLengths a_thrown a_count a_latest a_hand a_handLength a_foundSerial a_rows a_places a_off a_left a_made ls H locs uu hl hP hD hS hm K
      rw [m_M_layPlaces_l39] at hm
      refine lv_iload_n hx hb zd_Mod_layPlaces_39 rfl (lv_at hl 2 rfl) ?_
      refine lv_iload_n hx hb zd_Mod_layPlaces_40 rfl (lv_at hl 1 rfl) ?_
      refine lv_icmp_ge (tgt := 93) hx hb zd_Mod_layPlaces_41 (by decide) (fun hc => ?_) (fun hc => ?_)
      · rw [if_pos hc] at hm
        obtain rfl := Option.some.inj hm
        exact K ls H locs (lv_sub hl [0, 1, 2] rfl) hP hD hS
      · rw [if_neg hc] at hm
        refine lv_aload_n hx hb zd_Mod_layPlaces_44 rfl (lv_at hl 0 rfl) ?_
        refine va_get (D := (dC, dI)) (ci := 4) (v := .ref h_a_rowBytes) (C := zR_Mod) (T := zT_Mod) (N := 19) hx hb hts zu_Mod hown hK hP 0 rfl rfl 11 (by decide) (hts _ wk403) (fun _ h9 => h9) rfl zd_Mod_layPlaces_45 ?_
        refine lv_iload_n hx hb zd_Mod_layPlaces_48 rfl (lv_at hl 1 rfl) ?_
        by_cases hi : l1 < 0 ∨ 25 ≤ l1.toNatClampNeg
        · rw [if_pos hi] at hm; cases hm
        rw [if_neg hi] at hm
        refine va_lald hx hb hK hP 1 0 rfl rfl hi zd_Mod_layPlaces_49 ?_
        refine lv_aload_n hx hb zd_Mod_layPlaces_50 rfl (lv_at hl 0 rfl) ?_
        refine va_get (D := (dC, dI)) (ci := 4) (v := .ref h_a_rowLengths) (C := zR_Mod) (T := zT_Mod) (N := 19) hx hb hts zu_Mod hown hK hP 0 rfl rfl 12 (by decide) (hts _ wk404) (fun _ h9 => h9) rfl zd_Mod_layPlaces_51 ?_
        refine lv_iload_n hx hb zd_Mod_layPlaces_54 rfl (lv_at hl 1 rfl) ?_
        by_cases hi : l1 < 0 ∨ 25 ≤ l1.toNatClampNeg
        · rw [if_pos hi] at hm; cases hm
        rw [if_neg hi] at hm
        refine va_iald hx hb hK hP 2 1 rfl rfl hi zd_Mod_layPlaces_55 ?_
        refine lv_aload_n hx hb zd_Mod_layPlaces_56 rfl (lv_at hl 0 rfl) ?_
        refine va_get (D := (dC, dI)) (ci := 4) (v := .ref h_a_rowBytes) (C := zR_Mod) (T := zT_Mod) (N := 19) hx hb hts zu_Mod hown hK hP 0 rfl rfl 11 (by decide) (hts _ wk403) (fun _ h9 => h9) rfl zd_Mod_layPlaces_57 ?_
        refine lv_iload_n hx hb zd_Mod_layPlaces_60 rfl (lv_at hl 2 rfl) ?_
        by_cases hi : l2 < 0 ∨ 25 ≤ l2.toNatClampNeg
        · rw [if_pos hi] at hm; cases hm
        rw [if_neg hi] at hm
        refine va_lald hx hb hK hP 1 0 rfl rfl hi zd_Mod_layPlaces_61 ?_
        refine lv_aload_n hx hb zd_Mod_layPlaces_62 rfl (lv_at hl 0 rfl) ?_
        refine va_get (D := (dC, dI)) (ci := 4) (v := .ref h_a_rowLengths) (C := zR_Mod) (T := zT_Mod) (N := 19) hx hb hts zu_Mod hown hK hP 0 rfl rfl 12 (by decide) (hts _ wk404) (fun _ h9 => h9) rfl zd_Mod_layPlaces_63 ?_
        refine lv_iload_n hx hb zd_Mod_layPlaces_66 rfl (lv_at hl 2 rfl) ?_
        by_cases hi : l2 < 0 ∨ 25 ≤ l2.toNatClampNeg
        · rw [if_pos hi] at hm; cases hm
        rw [if_neg hi] at hm
        refine va_iald hx hb hK hP 2 1 rfl rfl hi zd_Mod_layPlaces_67 ?_
        obtain ⟨u3, hu3, hm⟩ := Option.bind_eq_some_iff.mp hm
        have hPc := hP.sub (ws' := []) [] rfl
        have hDc := hD.sub (ws' := []) [] (by decide) rfl
        have hFc := va_free (wc := []) hD hS hA [] rfl
        refine va_calli (va_runS (As := [.long ((a_rowBytes l1.toNatClampNeg)), .int ((a_rowLengths l1.toNatClampNeg)), .long ((a_rowBytes l2.toNatClampNeg)), .int ((a_rowLengths l2.toNatClampNeg))]) (rest := []) ⟨hx, hb, hml, hown, hts⟩ (c_M_common l dC dI cL cI H.size ((a_rowBytes l1.toNatClampNeg)) ((a_rowLengths l1.toNatClampNeg)) ((a_rowBytes l2.toNatClampNeg)) ((a_rowLengths l2.toNatClampNeg)) u3 hu3) (va_cwS 4 hts (zgS wk420 wk421 wk298 wk418) rfl rfl rfl zh_Mod_common.2 ⟨Nat.le_of_ble_eq_true rfl, Nat.le_of_ble_eq_true rfl⟩) ⟨fun a U g mk q => by obtain ⟨q0, q1, qP, qK, qD⟩ := q; exact ⟨q0, q1, qP, va_K.moved (u := U) (U := U.calling g mk a) (Vm.Alike.refl U.vm) qK, qD⟩, fun U hU hW => ⟨rfl, by rw [hU], by rw [hU]; exact hPc, va_K.moved hW.alike hK, hDc.weaken (fun _ _ _ _ => trivial)⟩⟩ rfl rfl hl.1 rfl (lv_room (Nat.le_of_ble_eq_true rfl)) zd_Mod_layPlaces_68 ⟨Nat.le_of_ble_eq_true rfl, Nat.le_of_ble_eq_true rfl⟩) hS (fun q _ h => hFc q h) hFc (fun r1 _ t H1 locs ht hvm hw hB hz1 hk1 hS => ?_)
        subst hw
        obtain ⟨hP1, hD1⟩ := hB
        rw [ht] at hP1
        obtain ⟨hP, hD⟩ := va_join (wr := [(h_a, .inr (4, [.int a_thrown, .int a_count, .ref h_a_names, .ref h_a_lengths, .ref h_a_serials, .ref h_a_targets, .int a_latest, .long a_hand, .int a_handLength, .int a_foundSerial, .int a_rows, .ref h_a_rowBytes, .ref h_a_rowLengths, .int a_places, .ref h_a_placeBytes, .ref h_a_placeLengths, .int a_off, .int a_left, .int a_made])), (h_a_rowBytes, .inl (cL, 25, .inr (.inl a_rowBytes))), (h_a_rowLengths, .inl (cI, 25, .inl a_rowLengths)), (h_a_placeBytes, .inl (cL, 64, .inr (.inl a_placeBytes))), (h_a_placeLengths, .inl (cI, 64, .inl a_placeLengths))]) (w1 := []) hP hD [] [0, 1, 2, 3, 4] rfl rfl (by decide) (by decide) hk1 hFc hP1 hD1
        generalize H1 = H at hP hS ⊢
        have hP : va_P (dC, dI) zCl [(h_a, .inr (4, [.int a_thrown, .int a_count, .ref h_a_names, .ref h_a_lengths, .ref h_a_serials, .ref h_a_targets, .int a_latest, .long a_hand, .int a_handLength, .int a_foundSerial, .int a_rows, .ref h_a_rowBytes, .ref h_a_rowLengths, .int a_places, .ref h_a_placeBytes, .ref h_a_placeLengths, .int a_off, .int a_left, .int a_made])), (h_a_rowBytes, .inl (cL, 25, .inr (.inl a_rowBytes))), (h_a_rowLengths, .inl (cI, 25, .inl a_rowLengths)), (h_a_placeBytes, .inl (cL, 64, .inr (.inl a_placeBytes))), (h_a_placeLengths, .inl (cI, 64, .inl a_placeLengths))] H := hP.sub [0, 1, 2, 3, 4] rfl
        have hD : va_D A [(h_a, .inr (4, [.int a_thrown, .int a_count, .ref h_a_names, .ref h_a_lengths, .ref h_a_serials, .ref h_a_targets, .int a_latest, .long a_hand, .int a_handLength, .int a_foundSerial, .int a_rows, .ref h_a_rowBytes, .ref h_a_rowLengths, .int a_places, .ref h_a_placeBytes, .ref h_a_placeLengths, .int a_off, .int a_left, .int a_made])), (h_a_rowBytes, .inl (cL, 25, .inr (.inl a_rowBytes))), (h_a_rowLengths, .inl (cI, 25, .inl a_rowLengths)), (h_a_placeBytes, .inl (cL, 64, .inr (.inl a_placeBytes))), (h_a_placeLengths, .inl (cI, 64, .inl a_placeLengths))] := hD.sub [0, 1, 2, 3, 4] (by decide) rfl
        refine lv_istore_n (lv' := [(3, .int u3), (0, .ref h_a), (1, .int l1), (2, .int l2)]) hx hb zd_Mod_layPlaces_71 rfl hl (by decide) rfl (fun ls hl => ?_)
        refine lv_aload_n hx hb zd_Mod_layPlaces_72 rfl (lv_at hl 1 rfl) ?_
        refine lv_aload_n hx hb zd_Mod_layPlaces_73 rfl (lv_at hl 1 rfl) ?_
        refine va_get (D := (dC, dI)) (ci := 4) (v := .ref h_a_rowBytes) (C := zR_Mod) (T := zT_Mod) (N := 19) hx hb hts zu_Mod hown hK hP 0 rfl rfl 11 (by decide) (hts _ wk403) (fun _ h9 => h9) rfl zd_Mod_layPlaces_74 ?_
        refine lv_iload_n hx hb zd_Mod_layPlaces_77 rfl (lv_at hl 2 rfl) ?_
        by_cases hi : l1 < 0 ∨ 25 ≤ l1.toNatClampNeg
        · rw [if_pos hi] at hm; cases hm
        rw [if_neg hi] at hm
        refine va_lald hx hb hK hP 1 0 rfl rfl hi zd_Mod_layPlaces_78 ?_
        refine lv_iload_n hx hb zd_Mod_layPlaces_79 rfl (lv_at hl 0 rfl) ?_
        obtain ⟨u4, hu4, hm⟩ := Option.bind_eq_some_iff.mp hm
        have hPc := hP.sub (ws' := []) [] rfl
        have hDc := hD.sub (ws' := []) [] (by decide) rfl
        have hFc := va_free (wc := []) hD hS hA [] rfl
        refine va_calll (va_runS (As := [.long ((a_rowBytes l1.toNatClampNeg)), .int u3]) (rest := [.ref h_a]) ⟨hx, hb, hml, hown, hts⟩ (c_M_firstOf l dC dI cL cI H.size ((a_rowBytes l1.toNatClampNeg)) u3 u4 hu4) (va_cwS 2 hts (zgS wk414 wk415 wk298 wk416) rfl rfl rfl zh_Mod_firstOf.2 ⟨Nat.le_of_ble_eq_true rfl, Nat.le_of_ble_eq_true rfl⟩) ⟨fun a U g mk q => by obtain ⟨q0, q1, qP, qK, qD⟩ := q; exact ⟨q0, q1, qP, va_K.moved (u := U) (U := U.calling g mk a) (Vm.Alike.refl U.vm) qK, qD⟩, fun U hU hW => ⟨rfl, by rw [hU], by rw [hU]; exact hPc, va_K.moved hW.alike hK, hDc.weaken (fun _ _ _ _ => trivial)⟩⟩ rfl rfl hl.1 rfl (lv_room (Nat.le_of_ble_eq_true rfl)) zd_Mod_layPlaces_80 ⟨Nat.le_of_ble_eq_true rfl, Nat.le_of_ble_eq_true rfl⟩) hS (fun q _ h => hFc q h) hFc (fun r1 _ t H1 locs ht hvm hw hB hz1 hk1 hS => ?_)
        subst hw
        obtain ⟨hP1, hD1⟩ := hB
        rw [ht] at hP1
        obtain ⟨hP, hD⟩ := va_join (wr := [(h_a, .inr (4, [.int a_thrown, .int a_count, .ref h_a_names, .ref h_a_lengths, .ref h_a_serials, .ref h_a_targets, .int a_latest, .long a_hand, .int a_handLength, .int a_foundSerial, .int a_rows, .ref h_a_rowBytes, .ref h_a_rowLengths, .int a_places, .ref h_a_placeBytes, .ref h_a_placeLengths, .int a_off, .int a_left, .int a_made])), (h_a_rowBytes, .inl (cL, 25, .inr (.inl a_rowBytes))), (h_a_rowLengths, .inl (cI, 25, .inl a_rowLengths)), (h_a_placeBytes, .inl (cL, 64, .inr (.inl a_placeBytes))), (h_a_placeLengths, .inl (cI, 64, .inl a_placeLengths))]) (w1 := []) hP hD [] [0, 1, 2, 3, 4] rfl rfl (by decide) (by decide) hk1 hFc hP1 hD1
        generalize H1 = H at hP hS ⊢
        have hP : va_P (dC, dI) zCl [(h_a, .inr (4, [.int a_thrown, .int a_count, .ref h_a_names, .ref h_a_lengths, .ref h_a_serials, .ref h_a_targets, .int a_latest, .long a_hand, .int a_handLength, .int a_foundSerial, .int a_rows, .ref h_a_rowBytes, .ref h_a_rowLengths, .int a_places, .ref h_a_placeBytes, .ref h_a_placeLengths, .int a_off, .int a_left, .int a_made])), (h_a_rowBytes, .inl (cL, 25, .inr (.inl a_rowBytes))), (h_a_rowLengths, .inl (cI, 25, .inl a_rowLengths)), (h_a_placeBytes, .inl (cL, 64, .inr (.inl a_placeBytes))), (h_a_placeLengths, .inl (cI, 64, .inl a_placeLengths))] H := hP.sub [0, 1, 2, 3, 4] rfl
        have hD : va_D A [(h_a, .inr (4, [.int a_thrown, .int a_count, .ref h_a_names, .ref h_a_lengths, .ref h_a_serials, .ref h_a_targets, .int a_latest, .long a_hand, .int a_handLength, .int a_foundSerial, .int a_rows, .ref h_a_rowBytes, .ref h_a_rowLengths, .int a_places, .ref h_a_placeBytes, .ref h_a_placeLengths, .int a_off, .int a_left, .int a_made])), (h_a_rowBytes, .inl (cL, 25, .inr (.inl a_rowBytes))), (h_a_rowLengths, .inl (cI, 25, .inl a_rowLengths)), (h_a_placeBytes, .inl (cL, 64, .inr (.inl a_placeBytes))), (h_a_placeLengths, .inl (cI, 64, .inl a_placeLengths))] := hD.sub [0, 1, 2, 3, 4] (by decide) rfl
        refine lv_iload_n hx hb zd_Mod_layPlaces_83 rfl (lv_at hl 0 rfl) ?_
        obtain ⟨u5, hu5, hm⟩ := Option.bind_eq_some_iff.mp hm
        have hPc := hP.sub (ws' := [(h_a, .inr (4, [.int a_thrown, .int a_count, .ref h_a_names, .ref h_a_lengths, .ref h_a_serials, .ref h_a_targets, .int a_latest, .long a_hand, .int a_handLength, .int a_foundSerial, .int a_rows, .ref h_a_rowBytes, .ref h_a_rowLengths, .int a_places, .ref h_a_placeBytes, .ref h_a_placeLengths, .int a_off, .int a_left, .int a_made])), (h_a_placeBytes, .inl (cL, 64, .inr (.inl a_placeBytes))), (h_a_placeLengths, .inl (cI, 64, .inl a_placeLengths))]) [0, 3, 4] rfl
        have hDc := hD.sub (ws' := [(h_a, .inr (4, [.int a_thrown, .int a_count, .ref h_a_names, .ref h_a_lengths, .ref h_a_serials, .ref h_a_targets, .int a_latest, .long a_hand, .int a_handLength, .int a_foundSerial, .int a_rows, .ref h_a_rowBytes, .ref h_a_rowLengths, .int a_places, .ref h_a_placeBytes, .ref h_a_placeLengths, .int a_off, .int a_left, .int a_made])), (h_a_placeBytes, .inl (cL, 64, .inr (.inl a_placeBytes))), (h_a_placeLengths, .inl (cI, 64, .inl a_placeLengths))]) [0, 3, 4] (by decide) rfl
        have hFc := va_free (wc := [(h_a, .inr (4, [.int a_thrown, .int a_count, .ref h_a_names, .ref h_a_lengths, .ref h_a_serials, .ref h_a_targets, .int a_latest, .long a_hand, .int a_handLength, .int a_foundSerial, .int a_rows, .ref h_a_rowBytes, .ref h_a_rowLengths, .int a_places, .ref h_a_placeBytes, .ref h_a_placeLengths, .int a_off, .int a_left, .int a_made])), (h_a_placeBytes, .inl (cL, 64, .inr (.inl a_placeBytes))), (h_a_placeLengths, .inl (cI, 64, .inl a_placeLengths))]) hD hS hA [0, 3, 4] rfl
        refine va_callv (va_runV (As := [.long u4, .int u3]) (rest := []) ⟨hx, hb, hml, hown, hts⟩ (c_M_lay l dC dI cL cI h_a h_a_names h_a_lengths h_a_serials h_a_targets h_a_rowBytes h_a_rowLengths h_a_placeBytes h_a_placeLengths H.size u4 u3 a_thrown a_count a_names a_lengths a_serials a_targets a_latest a_hand a_handLength a_foundSerial a_rows a_rowBytes a_rowLengths a_places a_placeBytes a_placeLengths a_off a_left a_made u5 hu5) (cwV 2 hts (zgV wk427 wk428 wk429 wk298 wk424) rfl rfl rfl zh_Mod_lay ⟨Nat.le_of_ble_eq_true rfl, Nat.le_of_ble_eq_true rfl⟩) ⟨fun a U g mk q => by obtain ⟨q0, q1, qP, qK, qD⟩ := q; exact ⟨q0, q1, qP, va_K.moved (u := U) (U := U.calling g mk a) (Vm.Alike.refl U.vm) qK, qD⟩, va_recv hK hP (ci := 4) (q0 := 0) rfl rfl, fun U hU hW => ⟨rfl, by rw [hU], by rw [hU]; exact hPc, va_K.moved hW.alike hK, hDc.weaken (fun _ _ _ _ => trivial)⟩⟩ rfl rfl hl.1 rfl (lv_room (Nat.le_of_ble_eq_true rfl)) zd_Mod_layPlaces_84 ⟨Nat.le_of_ble_eq_true rfl, Nat.le_of_ble_eq_true rfl⟩) hS (fun q _ h => hFc q h) hFc (fun _ t H1 locs ht hvm hw hB hz1 hk1 hS => ?_)
        obtain ⟨hP1, hD1⟩ := hB
        rw [ht] at hP1
        obtain ⟨hP, hD⟩ := va_join (wr := [(h_a_rowBytes, .inl (cL, 25, .inr (.inl a_rowBytes))), (h_a_rowLengths, .inl (cI, 25, .inl a_rowLengths))]) (w1 := [(h_a, .inr (4, [.int a_thrown, .int a_count, .ref h_a_names, .ref h_a_lengths, .ref h_a_serials, .ref h_a_targets, .int a_latest, .long a_hand, .int a_handLength, .int a_foundSerial, .int a_rows, .ref h_a_rowBytes, .ref h_a_rowLengths, .int u5.1, .ref h_a_placeBytes, .ref h_a_placeLengths, .int a_off, .int a_left, .int a_made])), (h_a_placeBytes, .inl (cL, 64, .inr (.inl u5.2.1))), (h_a_placeLengths, .inl (cI, 64, .inl u5.2.2))]) hP hD [0, 3, 4] [1, 2] rfl rfl (by decide) (by decide) hk1 hFc hP1 hD1
        generalize H1 = H at hP hS ⊢
        have hP : va_P (dC, dI) zCl [(h_a, .inr (4, [.int a_thrown, .int a_count, .ref h_a_names, .ref h_a_lengths, .ref h_a_serials, .ref h_a_targets, .int a_latest, .long a_hand, .int a_handLength, .int a_foundSerial, .int a_rows, .ref h_a_rowBytes, .ref h_a_rowLengths, .int u5.1, .ref h_a_placeBytes, .ref h_a_placeLengths, .int a_off, .int a_left, .int a_made])), (h_a_rowBytes, .inl (cL, 25, .inr (.inl a_rowBytes))), (h_a_rowLengths, .inl (cI, 25, .inl a_rowLengths)), (h_a_placeBytes, .inl (cL, 64, .inr (.inl u5.2.1))), (h_a_placeLengths, .inl (cI, 64, .inl u5.2.2))] H := hP.sub [2, 0, 1, 3, 4] rfl
        have hD : va_D A [(h_a, .inr (4, [.int a_thrown, .int a_count, .ref h_a_names, .ref h_a_lengths, .ref h_a_serials, .ref h_a_targets, .int a_latest, .long a_hand, .int a_handLength, .int a_foundSerial, .int a_rows, .ref h_a_rowBytes, .ref h_a_rowLengths, .int u5.1, .ref h_a_placeBytes, .ref h_a_placeLengths, .int a_off, .int a_left, .int a_made])), (h_a_rowBytes, .inl (cL, 25, .inr (.inl a_rowBytes))), (h_a_rowLengths, .inl (cI, 25, .inl a_rowLengths)), (h_a_placeBytes, .inl (cL, 64, .inr (.inl u5.2.1))), (h_a_placeLengths, .inl (cI, 64, .inl u5.2.2))] := hD.sub [2, 0, 1, 3, 4] (by decide) rfl
        refine lv_iinc (k := 3) (v := (l2 + 1)) (lv' := [(2, .int ((l2 + 1))), (3, .int u3), (0, .ref h_a), (1, .int l1)]) hx hb zd_Mod_layPlaces_87 hl rfl rfl (by decide) rfl (fun ls hl => ?_)
        refine lv_goto (tgt := 39) hx hb zd_Mod_layPlaces_90 (by decide) ?_
        exact ih l1 ((l2 + 1)) a_names a_lengths a_serials a_targets a_rowBytes a_rowLengths u5.2.1 u5.2.2 a_thrown a_count a_latest a_hand a_handLength a_foundSerial a_rows u5.1 a_off a_left a_made ls H locs uu (lv_sub hl [2, 3, 0] rfl) hP hD hS hm K
  have L13 : ∀ (n : Nat) (l1 : Int32) (a_names : Nat → Int64) (a_lengths : Nat → Int32) (a_serials : Nat → Int32) (a_targets : Nat → Int32) (a_rowBytes : Nat → Int64) (a_rowLengths : Nat → Int32) (a_placeBytes : Nat → Int64) (a_placeLengths : Nat → Int32) (a_thrown : Int32) (a_count : Int32) (a_latest : Int32) (a_hand : Int64) (a_handLength : Int32) (a_foundSerial : Int32) (a_rows : Int32) (a_places : Int32) (a_off : Int32) (a_left : Int32) (a_made : Int32) (ls : Array Slot) (H : Heap) (locs : List Loc) (uu : (Int32 × (Nat → Int64) × (Nat → Int32) × Int32)), lv_has ls 4 [(0, .ref h_a), (1, .int l1)] → va_P (dC, dI) zCl [(h_a, .inr (4, [.int a_thrown, .int a_count, .ref h_a_names, .ref h_a_lengths, .ref h_a_serials, .ref h_a_targets, .int a_latest, .long a_hand, .int a_handLength, .int a_foundSerial, .int a_rows, .ref h_a_rowBytes, .ref h_a_rowLengths, .int a_places, .ref h_a_placeBytes, .ref h_a_placeLengths, .int a_off, .int a_left, .int a_made])), (h_a_rowBytes, .inl (cL, 25, .inr (.inl a_rowBytes))), (h_a_rowLengths, .inl (cI, 25, .inl a_rowLengths)), (h_a_placeBytes, .inl (cL, 64, .inr (.inl a_placeBytes))), (h_a_placeLengths, .inl (cI, 64, .inl a_placeLengths))] H → va_D A [(h_a, .inr (4, [.int a_thrown, .int a_count, .ref h_a_names, .ref h_a_lengths, .ref h_a_serials, .ref h_a_targets, .int a_latest, .long a_hand, .int a_handLength, .int a_foundSerial, .int a_rows, .ref h_a_rowBytes, .ref h_a_rowLengths, .int a_places, .ref h_a_placeBytes, .ref h_a_placeLengths, .int a_off, .int a_left, .int a_made])), (h_a_rowBytes, .inl (cL, 25, .inr (.inl a_rowBytes))), (h_a_rowLengths, .inl (cI, 25, .inl a_rowLengths)), (h_a_placeBytes, .inl (cL, 64, .inr (.inl a_placeBytes))), (h_a_placeLengths, .inl (cI, 64, .inl a_placeLengths))] → va_S A s.heap H locs → m_M_layPlaces_l13 a_rowBytes a_rowLengths a_rows n l1 a_placeBytes a_placeLengths a_places = some uu → (∀ (ls : Array Slot) (H : Heap) (locs : List Loc), lv_has ls 4 [(0, .ref h_a), (1, .int uu.1)] → va_P (dC, dI) zCl [(h_a, .inr (4, [.int a_thrown, .int a_count, .ref h_a_names, .ref h_a_lengths, .ref h_a_serials, .ref h_a_targets, .int a_latest, .long a_hand, .int a_handLength, .int a_foundSerial, .int a_rows, .ref h_a_rowBytes, .ref h_a_rowLengths, .int uu.2.2.2, .ref h_a_placeBytes, .ref h_a_placeLengths, .int a_off, .int a_left, .int a_made])), (h_a_rowBytes, .inl (cL, 25, .inr (.inl a_rowBytes))), (h_a_rowLengths, .inl (cI, 25, .inl a_rowLengths)), (h_a_placeBytes, .inl (cL, 64, .inr (.inl uu.2.1))), (h_a_placeLengths, .inl (cI, 64, .inl uu.2.2.1))] H → va_D A [(h_a, .inr (4, [.int a_thrown, .int a_count, .ref h_a_names, .ref h_a_lengths, .ref h_a_serials, .ref h_a_targets, .int a_latest, .long a_hand, .int a_handLength, .int a_foundSerial, .int a_rows, .ref h_a_rowBytes, .ref h_a_rowLengths, .int uu.2.2.2, .ref h_a_placeBytes, .ref h_a_placeLengths, .int a_off, .int a_left, .int a_made])), (h_a_rowBytes, .inl (cL, 25, .inr (.inl a_rowBytes))), (h_a_rowLengths, .inl (cI, 25, .inl a_rowLengths)), (h_a_placeBytes, .inl (cL, 64, .inr (.inl uu.2.1))), (h_a_placeLengths, .inl (cI, 64, .inl uu.2.2.1))] → va_S A s.heap H locs → W p l e (headSpec zw_Mod_layPlaces ({ frames := 1, cells := 0, slots := 0, locals := 26 })).room s m ([.ref h_a] : List Value).toArray below meth c H locs 0 0 Q (F0 m 99 ls [])) → W p l e (headSpec zw_Mod_layPlaces ({ frames := 1, cells := 0, slots := 0, locals := 26 })).room s m ([.ref h_a] : List Value).toArray below meth c H locs 0 0 Q (F0 m 13 ls []) := by
    intro n
    induction n with
    | zero =>
      intro l1 a_names a_lengths a_serials a_targets a_rowBytes a_rowLengths a_placeBytes a_placeLengths a_thrown a_count a_latest a_hand a_handLength a_foundSerial a_rows a_places a_off a_left a_made ls H locs uu hl hP hD hS hm K
      rw [m_M_layPlaces_l13] at hm
      cases hm
    | succ n ih =>
      intro l1 a_names a_lengths a_serials a_targets a_rowBytes a_rowLengths a_placeBytes a_placeLengths a_thrown a_count a_latest a_hand a_handLength a_foundSerial a_rows a_places a_off a_left a_made ls H locs uu hl hP hD hS hm K
      rw [m_M_layPlaces_l13] at hm
      refine lv_iload_n hx hb zd_Mod_layPlaces_13 rfl (lv_at hl 1 rfl) ?_
      refine lv_aload_n hx hb zd_Mod_layPlaces_14 rfl (lv_at hl 0 rfl) ?_
      refine va_get (D := (dC, dI)) (ci := 4) (v := .int a_rows) (C := zR_Mod) (T := zT_Mod) (N := 19) hx hb hts zu_Mod hown hK hP 0 rfl rfl 10 (by decide) (hts _ wk423) (fun _ h9 => h9) rfl zd_Mod_layPlaces_15 ?_
      refine lv_icmp_ge (tgt := 99) hx hb zd_Mod_layPlaces_18 (by decide) (fun hc => ?_) (fun hc => ?_)
      · rw [if_pos hc] at hm
        obtain rfl := Option.some.inj hm
        exact K ls H locs (lv_sub hl [0, 1] rfl) hP hD hS
      · rw [if_neg hc] at hm
        refine lv_aload_n hx hb zd_Mod_layPlaces_21 rfl (lv_at hl 0 rfl) ?_
        refine lv_aload_n hx hb zd_Mod_layPlaces_22 rfl (lv_at hl 0 rfl) ?_
        refine va_get (D := (dC, dI)) (ci := 4) (v := .ref h_a_rowBytes) (C := zR_Mod) (T := zT_Mod) (N := 19) hx hb hts zu_Mod hown hK hP 0 rfl rfl 11 (by decide) (hts _ wk403) (fun _ h9 => h9) rfl zd_Mod_layPlaces_23 ?_
        refine lv_iload_n hx hb zd_Mod_layPlaces_26 rfl (lv_at hl 1 rfl) ?_
        by_cases hi : l1 < 0 ∨ 25 ≤ l1.toNatClampNeg
        · rw [if_pos hi] at hm; cases hm
        rw [if_neg hi] at hm
        refine va_lald hx hb hK hP 1 0 rfl rfl hi zd_Mod_layPlaces_27 ?_
        refine lv_aload_n hx hb zd_Mod_layPlaces_28 rfl (lv_at hl 0 rfl) ?_
        refine va_get (D := (dC, dI)) (ci := 4) (v := .ref h_a_rowLengths) (C := zR_Mod) (T := zT_Mod) (N := 19) hx hb hts zu_Mod hown hK hP 0 rfl rfl 12 (by decide) (hts _ wk404) (fun _ h9 => h9) rfl zd_Mod_layPlaces_29 ?_
        refine lv_iload_n hx hb zd_Mod_layPlaces_32 rfl (lv_at hl 1 rfl) ?_
        by_cases hi : l1 < 0 ∨ 25 ≤ l1.toNatClampNeg
        · rw [if_pos hi] at hm; cases hm
        rw [if_neg hi] at hm
        refine va_iald hx hb hK hP 2 1 rfl rfl hi zd_Mod_layPlaces_33 ?_
        obtain ⟨u2, hu2, hm⟩ := Option.bind_eq_some_iff.mp hm
        have hPc := hP.sub (ws' := [(h_a, .inr (4, [.int a_thrown, .int a_count, .ref h_a_names, .ref h_a_lengths, .ref h_a_serials, .ref h_a_targets, .int a_latest, .long a_hand, .int a_handLength, .int a_foundSerial, .int a_rows, .ref h_a_rowBytes, .ref h_a_rowLengths, .int a_places, .ref h_a_placeBytes, .ref h_a_placeLengths, .int a_off, .int a_left, .int a_made])), (h_a_placeBytes, .inl (cL, 64, .inr (.inl a_placeBytes))), (h_a_placeLengths, .inl (cI, 64, .inl a_placeLengths))]) [0, 3, 4] rfl
        have hDc := hD.sub (ws' := [(h_a, .inr (4, [.int a_thrown, .int a_count, .ref h_a_names, .ref h_a_lengths, .ref h_a_serials, .ref h_a_targets, .int a_latest, .long a_hand, .int a_handLength, .int a_foundSerial, .int a_rows, .ref h_a_rowBytes, .ref h_a_rowLengths, .int a_places, .ref h_a_placeBytes, .ref h_a_placeLengths, .int a_off, .int a_left, .int a_made])), (h_a_placeBytes, .inl (cL, 64, .inr (.inl a_placeBytes))), (h_a_placeLengths, .inl (cI, 64, .inl a_placeLengths))]) [0, 3, 4] (by decide) rfl
        have hFc := va_free (wc := [(h_a, .inr (4, [.int a_thrown, .int a_count, .ref h_a_names, .ref h_a_lengths, .ref h_a_serials, .ref h_a_targets, .int a_latest, .long a_hand, .int a_handLength, .int a_foundSerial, .int a_rows, .ref h_a_rowBytes, .ref h_a_rowLengths, .int a_places, .ref h_a_placeBytes, .ref h_a_placeLengths, .int a_off, .int a_left, .int a_made])), (h_a_placeBytes, .inl (cL, 64, .inr (.inl a_placeBytes))), (h_a_placeLengths, .inl (cI, 64, .inl a_placeLengths))]) hD hS hA [0, 3, 4] rfl
        refine va_callv (va_runV (As := [.long ((a_rowBytes l1.toNatClampNeg)), .int ((a_rowLengths l1.toNatClampNeg))]) (rest := []) ⟨hx, hb, hml, hown, hts⟩ (c_M_lay l dC dI cL cI h_a h_a_names h_a_lengths h_a_serials h_a_targets h_a_rowBytes h_a_rowLengths h_a_placeBytes h_a_placeLengths H.size ((a_rowBytes l1.toNatClampNeg)) ((a_rowLengths l1.toNatClampNeg)) a_thrown a_count a_names a_lengths a_serials a_targets a_latest a_hand a_handLength a_foundSerial a_rows a_rowBytes a_rowLengths a_places a_placeBytes a_placeLengths a_off a_left a_made u2 hu2) (cwV 2 hts (zgV wk427 wk428 wk429 wk298 wk424) rfl rfl rfl zh_Mod_lay ⟨Nat.le_of_ble_eq_true rfl, Nat.le_of_ble_eq_true rfl⟩) ⟨fun a U g mk q => by obtain ⟨q0, q1, qP, qK, qD⟩ := q; exact ⟨q0, q1, qP, va_K.moved (u := U) (U := U.calling g mk a) (Vm.Alike.refl U.vm) qK, qD⟩, va_recv hK hP (ci := 4) (q0 := 0) rfl rfl, fun U hU hW => ⟨rfl, by rw [hU], by rw [hU]; exact hPc, va_K.moved hW.alike hK, hDc.weaken (fun _ _ _ _ => trivial)⟩⟩ rfl rfl hl.1 rfl (lv_room (Nat.le_of_ble_eq_true rfl)) zd_Mod_layPlaces_34 ⟨Nat.le_of_ble_eq_true rfl, Nat.le_of_ble_eq_true rfl⟩) hS (fun q _ h => hFc q h) hFc (fun _ t H1 locs ht hvm hw hB hz1 hk1 hS => ?_)
        obtain ⟨hP1, hD1⟩ := hB
        rw [ht] at hP1
        obtain ⟨hP, hD⟩ := va_join (wr := [(h_a_rowBytes, .inl (cL, 25, .inr (.inl a_rowBytes))), (h_a_rowLengths, .inl (cI, 25, .inl a_rowLengths))]) (w1 := [(h_a, .inr (4, [.int a_thrown, .int a_count, .ref h_a_names, .ref h_a_lengths, .ref h_a_serials, .ref h_a_targets, .int a_latest, .long a_hand, .int a_handLength, .int a_foundSerial, .int a_rows, .ref h_a_rowBytes, .ref h_a_rowLengths, .int u2.1, .ref h_a_placeBytes, .ref h_a_placeLengths, .int a_off, .int a_left, .int a_made])), (h_a_placeBytes, .inl (cL, 64, .inr (.inl u2.2.1))), (h_a_placeLengths, .inl (cI, 64, .inl u2.2.2))]) hP hD [0, 3, 4] [1, 2] rfl rfl (by decide) (by decide) hk1 hFc hP1 hD1
        generalize H1 = H at hP hS ⊢
        have hP : va_P (dC, dI) zCl [(h_a, .inr (4, [.int a_thrown, .int a_count, .ref h_a_names, .ref h_a_lengths, .ref h_a_serials, .ref h_a_targets, .int a_latest, .long a_hand, .int a_handLength, .int a_foundSerial, .int a_rows, .ref h_a_rowBytes, .ref h_a_rowLengths, .int u2.1, .ref h_a_placeBytes, .ref h_a_placeLengths, .int a_off, .int a_left, .int a_made])), (h_a_rowBytes, .inl (cL, 25, .inr (.inl a_rowBytes))), (h_a_rowLengths, .inl (cI, 25, .inl a_rowLengths)), (h_a_placeBytes, .inl (cL, 64, .inr (.inl u2.2.1))), (h_a_placeLengths, .inl (cI, 64, .inl u2.2.2))] H := hP.sub [2, 0, 1, 3, 4] rfl
        have hD : va_D A [(h_a, .inr (4, [.int a_thrown, .int a_count, .ref h_a_names, .ref h_a_lengths, .ref h_a_serials, .ref h_a_targets, .int a_latest, .long a_hand, .int a_handLength, .int a_foundSerial, .int a_rows, .ref h_a_rowBytes, .ref h_a_rowLengths, .int u2.1, .ref h_a_placeBytes, .ref h_a_placeLengths, .int a_off, .int a_left, .int a_made])), (h_a_rowBytes, .inl (cL, 25, .inr (.inl a_rowBytes))), (h_a_rowLengths, .inl (cI, 25, .inl a_rowLengths)), (h_a_placeBytes, .inl (cL, 64, .inr (.inl u2.2.1))), (h_a_placeLengths, .inl (cI, 64, .inl u2.2.2))] := hD.sub [2, 0, 1, 3, 4] (by decide) rfl
        refine lv_iconst (v := 0) hx hb zd_Mod_layPlaces_37 (by decide) ?_
        refine lv_istore_n (lv' := [(2, .int 0), (0, .ref h_a), (1, .int l1)]) hx hb zd_Mod_layPlaces_38 rfl hl (by decide) rfl (fun ls hl => ?_)
        obtain ⟨u6, hu6, hm⟩ := Option.bind_eq_some_iff.mp hm
        refine L39 100 l1 0 a_names a_lengths a_serials a_targets a_rowBytes a_rowLengths u2.2.1 u2.2.2 a_thrown a_count a_latest a_hand a_handLength a_foundSerial a_rows u2.1 a_off a_left a_made ls _ _ u6 (lv_sub hl [1, 2, 0] rfl) hP hD hS hu6 (fun ls H locs hl hP hD hS => ?_)
        refine lv_iinc (k := 1) (v := (l1 + 1)) (lv' := [(1, .int ((l1 + 1))), (0, .ref h_a), (2, .int u6.1)]) hx hb zd_Mod_layPlaces_93 hl rfl rfl (by decide) rfl (fun ls hl => ?_)
        refine lv_goto (tgt := 13) hx hb zd_Mod_layPlaces_96 (by decide) ?_
        exact ih ((l1 + 1)) a_names a_lengths a_serials a_targets a_rowBytes a_rowLengths u6.2.1 u6.2.2.1 a_thrown a_count a_latest a_hand a_handLength a_foundSerial a_rows u6.2.2.2 a_off a_left a_made ls H locs uu (lv_sub hl [1, 0] rfl) hP hD hS hm K
  unfold m_M_layPlaces at hm
  refine lv_aload_n hx hb zd_Mod_layPlaces_0 rfl (lv_at hl 0 rfl) ?_
  refine lv_iconst (v := 0) hx hb zd_Mod_layPlaces_1 (by decide) ?_
  refine va_put (D := (dC, dI)) (ci := 4) (v := .int 0) (ty := .int) (C := zR_Mod) (T := zT_Mod) (N := 19) hx hb hts zu_Mod zt_Mod zt_Mod_ok zn_Mod hown hK hP hD hS 0 rfl rfl 13 (by decide) (hts _ wk425) (fun _ h9 => h9) rfl (by decide +kernel) rfl rfl (Nat.le_of_ble_eq_true rfl) zd_Mod_layPlaces_2 (fun H locs hP hD hS => ?_)
  have hP : va_P (dC, dI) zCl [(h_a, .inr (4, [.int a_thrown, .int a_count, .ref h_a_names, .ref h_a_lengths, .ref h_a_serials, .ref h_a_targets, .int a_latest, .long a_hand, .int a_handLength, .int a_foundSerial, .int a_rows, .ref h_a_rowBytes, .ref h_a_rowLengths, .int 0, .ref h_a_placeBytes, .ref h_a_placeLengths, .int a_off, .int a_left, .int a_made])), (h_a_rowBytes, .inl (cL, 25, .inr (.inl a_rowBytes))), (h_a_rowLengths, .inl (cI, 25, .inl a_rowLengths)), (h_a_placeBytes, .inl (cL, 64, .inr (.inl a_placeBytes))), (h_a_placeLengths, .inl (cI, 64, .inl a_placeLengths))] H := hP
  have hD : va_D A [(h_a, .inr (4, [.int a_thrown, .int a_count, .ref h_a_names, .ref h_a_lengths, .ref h_a_serials, .ref h_a_targets, .int a_latest, .long a_hand, .int a_handLength, .int a_foundSerial, .int a_rows, .ref h_a_rowBytes, .ref h_a_rowLengths, .int 0, .ref h_a_placeBytes, .ref h_a_placeLengths, .int a_off, .int a_left, .int a_made])), (h_a_rowBytes, .inl (cL, 25, .inr (.inl a_rowBytes))), (h_a_rowLengths, .inl (cI, 25, .inl a_rowLengths)), (h_a_placeBytes, .inl (cL, 64, .inr (.inl a_placeBytes))), (h_a_placeLengths, .inl (cI, 64, .inl a_placeLengths))] := hD
  refine lv_aload_n hx hb zd_Mod_layPlaces_5 rfl (lv_at hl 0 rfl) ?_
  refine lv_lconst (v := 0) hx hb zd_Mod_layPlaces_6 (by decide) ?_
  refine lv_iconst (v := 0) hx hb zd_Mod_layPlaces_7 (by decide) ?_
  obtain ⟨u1, hu1, hm⟩ := Option.bind_eq_some_iff.mp hm
  have hPc := hP.sub (ws' := [(h_a, .inr (4, [.int a_thrown, .int a_count, .ref h_a_names, .ref h_a_lengths, .ref h_a_serials, .ref h_a_targets, .int a_latest, .long a_hand, .int a_handLength, .int a_foundSerial, .int a_rows, .ref h_a_rowBytes, .ref h_a_rowLengths, .int 0, .ref h_a_placeBytes, .ref h_a_placeLengths, .int a_off, .int a_left, .int a_made])), (h_a_placeBytes, .inl (cL, 64, .inr (.inl a_placeBytes))), (h_a_placeLengths, .inl (cI, 64, .inl a_placeLengths))]) [0, 3, 4] rfl
  have hDc := hD.sub (ws' := [(h_a, .inr (4, [.int a_thrown, .int a_count, .ref h_a_names, .ref h_a_lengths, .ref h_a_serials, .ref h_a_targets, .int a_latest, .long a_hand, .int a_handLength, .int a_foundSerial, .int a_rows, .ref h_a_rowBytes, .ref h_a_rowLengths, .int 0, .ref h_a_placeBytes, .ref h_a_placeLengths, .int a_off, .int a_left, .int a_made])), (h_a_placeBytes, .inl (cL, 64, .inr (.inl a_placeBytes))), (h_a_placeLengths, .inl (cI, 64, .inl a_placeLengths))]) [0, 3, 4] (by decide) rfl
  have hFc := va_free (wc := [(h_a, .inr (4, [.int a_thrown, .int a_count, .ref h_a_names, .ref h_a_lengths, .ref h_a_serials, .ref h_a_targets, .int a_latest, .long a_hand, .int a_handLength, .int a_foundSerial, .int a_rows, .ref h_a_rowBytes, .ref h_a_rowLengths, .int 0, .ref h_a_placeBytes, .ref h_a_placeLengths, .int a_off, .int a_left, .int a_made])), (h_a_placeBytes, .inl (cL, 64, .inr (.inl a_placeBytes))), (h_a_placeLengths, .inl (cI, 64, .inl a_placeLengths))]) hD hS hA [0, 3, 4] rfl
  refine va_callv (va_runV (As := [.long 0, .int 0]) (rest := []) ⟨hx, hb, hml, hown, hts⟩ (c_M_lay l dC dI cL cI h_a h_a_names h_a_lengths h_a_serials h_a_targets h_a_rowBytes h_a_rowLengths h_a_placeBytes h_a_placeLengths H.size 0 0 a_thrown a_count a_names a_lengths a_serials a_targets a_latest a_hand a_handLength a_foundSerial a_rows a_rowBytes a_rowLengths 0 a_placeBytes a_placeLengths a_off a_left a_made u1 hu1) (cwV 2 hts (zgV wk427 wk428 wk429 wk298 wk424) rfl rfl rfl zh_Mod_lay ⟨Nat.le_of_ble_eq_true rfl, Nat.le_of_ble_eq_true rfl⟩) ⟨fun a U g mk q => by obtain ⟨q0, q1, qP, qK, qD⟩ := q; exact ⟨q0, q1, qP, va_K.moved (u := U) (U := U.calling g mk a) (Vm.Alike.refl U.vm) qK, qD⟩, va_recv hK hP (ci := 4) (q0 := 0) rfl rfl, fun U hU hW => ⟨rfl, by rw [hU], by rw [hU]; exact hPc, va_K.moved hW.alike hK, hDc.weaken (fun _ _ _ _ => trivial)⟩⟩ rfl rfl hl.1 rfl (lv_room (Nat.le_of_ble_eq_true rfl)) zd_Mod_layPlaces_8 ⟨Nat.le_of_ble_eq_true rfl, Nat.le_of_ble_eq_true rfl⟩) hS (fun q _ h => hFc q h) hFc (fun _ t H1 locs ht hvm hw hB hz1 hk1 hS => ?_)
  obtain ⟨hP1, hD1⟩ := hB
  rw [ht] at hP1
  obtain ⟨hP, hD⟩ := va_join (wr := [(h_a_rowBytes, .inl (cL, 25, .inr (.inl a_rowBytes))), (h_a_rowLengths, .inl (cI, 25, .inl a_rowLengths))]) (w1 := [(h_a, .inr (4, [.int a_thrown, .int a_count, .ref h_a_names, .ref h_a_lengths, .ref h_a_serials, .ref h_a_targets, .int a_latest, .long a_hand, .int a_handLength, .int a_foundSerial, .int a_rows, .ref h_a_rowBytes, .ref h_a_rowLengths, .int u1.1, .ref h_a_placeBytes, .ref h_a_placeLengths, .int a_off, .int a_left, .int a_made])), (h_a_placeBytes, .inl (cL, 64, .inr (.inl u1.2.1))), (h_a_placeLengths, .inl (cI, 64, .inl u1.2.2))]) hP hD [0, 3, 4] [1, 2] rfl rfl (by decide) (by decide) hk1 hFc hP1 hD1
  generalize H1 = H at hP hS ⊢
  have hP : va_P (dC, dI) zCl [(h_a, .inr (4, [.int a_thrown, .int a_count, .ref h_a_names, .ref h_a_lengths, .ref h_a_serials, .ref h_a_targets, .int a_latest, .long a_hand, .int a_handLength, .int a_foundSerial, .int a_rows, .ref h_a_rowBytes, .ref h_a_rowLengths, .int u1.1, .ref h_a_placeBytes, .ref h_a_placeLengths, .int a_off, .int a_left, .int a_made])), (h_a_rowBytes, .inl (cL, 25, .inr (.inl a_rowBytes))), (h_a_rowLengths, .inl (cI, 25, .inl a_rowLengths)), (h_a_placeBytes, .inl (cL, 64, .inr (.inl u1.2.1))), (h_a_placeLengths, .inl (cI, 64, .inl u1.2.2))] H := hP.sub [2, 0, 1, 3, 4] rfl
  have hD : va_D A [(h_a, .inr (4, [.int a_thrown, .int a_count, .ref h_a_names, .ref h_a_lengths, .ref h_a_serials, .ref h_a_targets, .int a_latest, .long a_hand, .int a_handLength, .int a_foundSerial, .int a_rows, .ref h_a_rowBytes, .ref h_a_rowLengths, .int u1.1, .ref h_a_placeBytes, .ref h_a_placeLengths, .int a_off, .int a_left, .int a_made])), (h_a_rowBytes, .inl (cL, 25, .inr (.inl a_rowBytes))), (h_a_rowLengths, .inl (cI, 25, .inl a_rowLengths)), (h_a_placeBytes, .inl (cL, 64, .inr (.inl u1.2.1))), (h_a_placeLengths, .inl (cI, 64, .inl u1.2.2))] := hD.sub [2, 0, 1, 3, 4] (by decide) rfl
  refine lv_iconst (v := 0) hx hb zd_Mod_layPlaces_11 (by decide) ?_
  refine lv_istore_n (lv' := [(1, .int 0), (0, .ref h_a)]) hx hb zd_Mod_layPlaces_12 rfl hl (by decide) rfl (fun ls hl => ?_)
  obtain ⟨u7, hu7, hm⟩ := Option.bind_eq_some_iff.mp hm
  refine L13 100 0 a_names a_lengths a_serials a_targets a_rowBytes a_rowLengths u1.2.1 u1.2.2 a_thrown a_count a_latest a_hand a_handLength a_foundSerial a_rows u1.1 a_off a_left a_made ls _ _ u7 (lv_sub hl [1, 0] rfl) hP hD hS hu7 (fun ls H locs hl hP hD hS => ?_)
  obtain rfl := Option.some.inj hm
  exact KR 99 ls _ _ zd_Mod_layPlaces_99 hP hD hS
set_option maxHeartbeats 4000000 in
set_option maxRecDepth 100000 in
theorem c_M_beginnings (l : Launch) (dC : Nat → ClassId) (dI : Nat → Nat → Nat) (cL cI : ClassId) (h_a h_a_names h_a_lengths h_a_serials h_a_targets h_a_rowBytes h_a_rowLengths h_a_placeBytes h_a_placeLengths : Nat) (sz : Nat) (x0 : Int64) (x1 : Int32) (x2 : Int64) (x3 : Int32) (a_thrown : Int32) (a_count : Int32) (a_names : Nat → Int64) (a_lengths : Nat → Int32) (a_serials : Nat → Int32) (a_targets : Nat → Int32) (a_latest : Int32) (a_hand : Int64) (a_handLength : Int32) (a_foundSerial : Int32) (a_rows : Int32) (a_rowBytes : Nat → Int64) (a_rowLengths : Nat → Int32) (a_places : Int32) (a_placeBytes : Nat → Int64) (a_placeLengths : Nat → Int32) (a_off : Int32) (a_left : Int32) (a_made : Int32) (u : Int32) (hm : m_M_beginnings x0 x1 x2 x3 a_places a_placeBytes a_placeLengths = some u) : Met l zy_Mod_beginnings zw_Mod_beginnings ({ frames := 2, cells := 0, slots := 0, locals := 47 }) (va_Pc [.ref h_a, .long x0, .int x1, .long x2, .int x3] (fun U => U.heap.size = sz ∧ va_P (dC, dI) zCl [(h_a, .inr (4, [.int a_thrown, .int a_count, .ref h_a_names, .ref h_a_lengths, .ref h_a_serials, .ref h_a_targets, .int a_latest, .long a_hand, .int a_handLength, .int a_foundSerial, .int a_rows, .ref h_a_rowBytes, .ref h_a_rowLengths, .int a_places, .ref h_a_placeBytes, .ref h_a_placeLengths, .int a_off, .int a_left, .int a_made])), (h_a_placeBytes, .inl (cL, 64, .inr (.inl a_placeBytes))), (h_a_placeLengths, .inl (cI, 64, .inl a_placeLengths))] U.heap ∧ va_K (dC, dI) zCl [(cL, .long), (cI, .int)] U ∧ va_D (fun _ => True) [(h_a, .inr (4, [.int a_thrown, .int a_count, .ref h_a_names, .ref h_a_lengths, .ref h_a_serials, .ref h_a_targets, .int a_latest, .long a_hand, .int a_handLength, .int a_foundSerial, .int a_rows, .ref h_a_rowBytes, .ref h_a_rowLengths, .int a_places, .ref h_a_placeBytes, .ref h_a_placeLengths, .int a_off, .int a_left, .int a_made])), (h_a_placeBytes, .inl (cL, 64, .inr (.inl a_placeBytes))), (h_a_placeLengths, .inl (cI, 64, .inl a_placeLengths))])) (va_Qi (fun (r : Int32) (_ : Unit) => u = r) (fun _ t => va_P (dC, dI) zCl [(h_a, .inr (4, [.int a_thrown, .int a_count, .ref h_a_names, .ref h_a_lengths, .ref h_a_serials, .ref h_a_targets, .int a_latest, .long a_hand, .int a_handLength, .int a_foundSerial, .int a_rows, .ref h_a_rowBytes, .ref h_a_rowLengths, .int a_places, .ref h_a_placeBytes, .ref h_a_placeLengths, .int a_off, .int a_left, .int a_made])), (h_a_placeBytes, .inl (cL, 64, .inr (.inl a_placeBytes))), (h_a_placeLengths, .inl (cI, 64, .inl a_placeLengths))] t.heap ∧ va_D (va_A [(h_a, .inr (4, [.int a_thrown, .int a_count, .ref h_a_names, .ref h_a_lengths, .ref h_a_serials, .ref h_a_targets, .int a_latest, .long a_hand, .int a_handLength, .int a_foundSerial, .int a_rows, .ref h_a_rowBytes, .ref h_a_rowLengths, .int a_places, .ref h_a_placeBytes, .ref h_a_placeLengths, .int a_off, .int a_left, .int a_made])), (h_a_placeBytes, .inl (cL, 64, .inr (.inl a_placeBytes))), (h_a_placeLengths, .inl (cI, 64, .inl a_placeLengths))] sz) [(h_a, .inr (4, [.int a_thrown, .int a_count, .ref h_a_names, .ref h_a_lengths, .ref h_a_serials, .ref h_a_targets, .int a_latest, .long a_hand, .int a_handLength, .int a_foundSerial, .int a_rows, .ref h_a_rowBytes, .ref h_a_rowLengths, .int a_places, .ref h_a_placeBytes, .ref h_a_placeLengths, .int a_off, .int a_left, .int a_made])), (h_a_placeBytes, .inl (cL, 64, .inr (.inl a_placeBytes))), (h_a_placeLengths, .inl (cI, 64, .inl a_placeLengths))]) (va_A [(h_a, .inr (4, [.int a_thrown, .int a_count, .ref h_a_names, .ref h_a_lengths, .ref h_a_serials, .ref h_a_targets, .int a_latest, .long a_hand, .int a_handLength, .int a_foundSerial, .int a_rows, .ref h_a_rowBytes, .ref h_a_rowLengths, .int a_places, .ref h_a_placeBytes, .ref h_a_placeLengths, .int a_off, .int a_left, .int a_made])), (h_a_placeBytes, .inl (cL, 64, .inr (.inl a_placeBytes))), (h_a_placeLengths, .inl (cI, 64, .inl a_placeLengths))] sz)) 0 0 (va_A [(h_a, .inr (4, [.int a_thrown, .int a_count, .ref h_a_names, .ref h_a_lengths, .ref h_a_serials, .ref h_a_targets, .int a_latest, .long a_hand, .int a_handLength, .int a_foundSerial, .int a_rows, .ref h_a_rowBytes, .ref h_a_rowLengths, .int a_places, .ref h_a_placeBytes, .ref h_a_placeLengths, .int a_off, .int a_left, .int a_made])), (h_a_placeBytes, .inl (cL, 64, .inr (.inl a_placeBytes))), (h_a_placeLengths, .inl (cI, 64, .inl a_placeLengths))] sz) := by
  refine Met.ofW (cc := zc_Mod_beginnings) (maxL := 10) (ret := (some .int)) (by decide) rfl ?_
  intro p e s m args below meth c s₁ B hml hv
  obtain ⟨rfl, hsz, hP, hK, hD0⟩ := hv
  have hx := B.exec
  have hb := B.bytes
  have hr := B.returns
  have hts0 := atoms_spec (ws := zw_Mod_beginnings) B.pre
  have hts : ∀ w ∈ WSg, w.before _ s = true := fun w h => hts0 w (List.mem_cons_of_mem _ h)
  clear hts0
  have hown : s.vm.findClass zR_Mod = some m.cls := findClass_of_methodNamed B.named
  have hlocks := B.notSynchronized
  subst hsz
  have hD := hD0.self (sz := s.heap.size)
  generalize hAe : va_A [(h_a, .inr (4, [.int a_thrown, .int a_count, .ref h_a_names, .ref h_a_lengths, .ref h_a_serials, .ref h_a_targets, .int a_latest, .long a_hand, .int a_handLength, .int a_foundSerial, .int a_rows, .ref h_a_rowBytes, .ref h_a_rowLengths, .int a_places, .ref h_a_placeBytes, .ref h_a_placeLengths, .int a_off, .int a_left, .int a_made])), (h_a_placeBytes, .inl (cL, 64, .inr (.inl a_placeBytes))), (h_a_placeLengths, .inl (cI, 64, .inl a_placeLengths))] s.heap.size = A at hD ⊢
  have hA : ∀ q : Nat, s.heap.size ≤ q → A q := fun q h => by rw [← hAe]; exact Or.inr h
  have hS : va_S A s.heap s.heap [] := va_S.rf
  have hP : va_P (dC, dI) zCl [(h_a, .inr (4, [.int a_thrown, .int a_count, .ref h_a_names, .ref h_a_lengths, .ref h_a_serials, .ref h_a_targets, .int a_latest, .long a_hand, .int a_handLength, .int a_foundSerial, .int a_rows, .ref h_a_rowBytes, .ref h_a_rowLengths, .int a_places, .ref h_a_placeBytes, .ref h_a_placeLengths, .int a_off, .int a_left, .int a_made])), (h_a_placeBytes, .inl (cL, 64, .inr (.inl a_placeBytes))), (h_a_placeLengths, .inl (cI, 64, .inl a_placeLengths))] s.heap := hP
  have hl := lv_entry ([.ref h_a, .long x0, .int x1, .long x2, .int x3]) (n := 10) (Nat.le_of_ble_eq_true rfl)
  rw [lg_entry_eq]
  generalize (lg_sl ([.ref h_a, .long x0, .int x1, .long x2, .int x3]) ++ List.replicate (10 - (lg_sl ([.ref h_a, .long x0, .int x1, .long x2, .int x3])).length) Slot.unset).toArray = ls at hl ⊢
  have hl : lv_has ls 10 [(0, .ref h_a), (1, .long x0), (3, .int x1), (4, .long x2), (6, .int x3)] := hl
  have KR : ∀ (pc : Nat) (ls : Array Slot) (H : Heap) (locs : List Loc), decode zc_Mod_beginnings pc = .ok (.ireturn, 1) → va_P (dC, dI) zCl [(h_a, .inr (4, [.int a_thrown, .int a_count, .ref h_a_names, .ref h_a_lengths, .ref h_a_serials, .ref h_a_targets, .int a_latest, .long a_hand, .int a_handLength, .int a_foundSerial, .int a_rows, .ref h_a_rowBytes, .ref h_a_rowLengths, .int a_places, .ref h_a_placeBytes, .ref h_a_placeLengths, .int a_off, .int a_left, .int a_made])), (h_a_placeBytes, .inl (cL, 64, .inr (.inl a_placeBytes))), (h_a_placeLengths, .inl (cI, 64, .inl a_placeLengths))] H → va_D A [(h_a, .inr (4, [.int a_thrown, .int a_count, .ref h_a_names, .ref h_a_lengths, .ref h_a_serials, .ref h_a_targets, .int a_latest, .long a_hand, .int a_handLength, .int a_foundSerial, .int a_rows, .ref h_a_rowBytes, .ref h_a_rowLengths, .int a_places, .ref h_a_placeBytes, .ref h_a_placeLengths, .int a_off, .int a_left, .int a_made])), (h_a_placeBytes, .inl (cL, 64, .inr (.inl a_placeBytes))), (h_a_placeLengths, .inl (cI, 64, .inl a_placeLengths))] → va_S A s.heap H locs → W p l e (headSpec zw_Mod_beginnings ({ frames := 2, cells := 0, slots := 0, locals := 47 })).room s m ([.ref h_a, .long x0, .int x1, .long x2, .int x3] : List Value).toArray below meth c H locs 0 0 (MQ below (va_Qi (fun (r : Int32) (_ : Unit) => u = r) (fun _ t => va_P (dC, dI) zCl [(h_a, .inr (4, [.int a_thrown, .int a_count, .ref h_a_names, .ref h_a_lengths, .ref h_a_serials, .ref h_a_targets, .int a_latest, .long a_hand, .int a_handLength, .int a_foundSerial, .int a_rows, .ref h_a_rowBytes, .ref h_a_rowLengths, .int a_places, .ref h_a_placeBytes, .ref h_a_placeLengths, .int a_off, .int a_left, .int a_made])), (h_a_placeBytes, .inl (cL, 64, .inr (.inl a_placeBytes))), (h_a_placeLengths, .inl (cI, 64, .inl a_placeLengths))] t.heap ∧ va_D A [(h_a, .inr (4, [.int a_thrown, .int a_count, .ref h_a_names, .ref h_a_lengths, .ref h_a_serials, .ref h_a_targets, .int a_latest, .long a_hand, .int a_handLength, .int a_foundSerial, .int a_rows, .ref h_a_rowBytes, .ref h_a_rowLengths, .int a_places, .ref h_a_placeBytes, .ref h_a_placeLengths, .int a_off, .int a_left, .int a_made])), (h_a_placeBytes, .inl (cL, 64, .inr (.inl a_placeBytes))), (h_a_placeLengths, .inl (cI, 64, .inl a_placeLengths))]) A) ([.ref h_a, .long x0, .int x1, .long x2, .int x3] : List Value).toArray s 0 0 A) (F0 m pc ls [.int u]) := by
    intro pc ls H locs hd hP9 hD9 hS
    exact W.iret (v := u) hx hb hr (fun t ht hW => ⟨⟨u, (), rfl, rfl, by rw [ht]; exact hP9, hD9⟩, hS.F ht⟩) hS.2.2 hd
  generalize (MQ below (va_Qi (fun (r : Int32) (_ : Unit) => u = r) (fun _ t => va_P (dC, dI) zCl [(h_a, .inr (4, [.int a_thrown, .int a_count, .ref h_a_names, .ref h_a_lengths, .ref h_a_serials, .ref h_a_targets, .int a_latest, .long a_hand, .int a_handLength, .int a_foundSerial, .int a_rows, .ref h_a_rowBytes, .ref h_a_rowLengths, .int a_places, .ref h_a_placeBytes, .ref h_a_placeLengths, .int a_off, .int a_left, .int a_made])), (h_a_placeBytes, .inl (cL, 64, .inr (.inl a_placeBytes))), (h_a_placeLengths, .inl (cI, 64, .inl a_placeLengths))] t.heap ∧ va_D A [(h_a, .inr (4, [.int a_thrown, .int a_count, .ref h_a_names, .ref h_a_lengths, .ref h_a_serials, .ref h_a_targets, .int a_latest, .long a_hand, .int a_handLength, .int a_foundSerial, .int a_rows, .ref h_a_rowBytes, .ref h_a_rowLengths, .int a_places, .ref h_a_placeBytes, .ref h_a_placeLengths, .int a_off, .int a_left, .int a_made])), (h_a_placeBytes, .inl (cL, 64, .inr (.inl a_placeBytes))), (h_a_placeLengths, .inl (cI, 64, .inl a_placeLengths))]) A) ([.ref h_a, .long x0, .int x1, .long x2, .int x3] : List Value).toArray s 0 0 A) = Q at KR ⊢
  have L6 : ∀ (n : Nat) (l1 : Int64) (l3 : Int32) (l4 : Int64) (l6 : Int32) (l7 : Int32) (l8 : Int32) (a_names : Nat → Int64) (a_lengths : Nat → Int32) (a_serials : Nat → Int32) (a_targets : Nat → Int32) (a_rowBytes : Nat → Int64) (a_rowLengths : Nat → Int32) (a_placeBytes : Nat → Int64) (a_placeLengths : Nat → Int32) (a_thrown : Int32) (a_count : Int32) (a_latest : Int32) (a_hand : Int64) (a_handLength : Int32) (a_foundSerial : Int32) (a_rows : Int32) (a_places : Int32) (a_off : Int32) (a_left : Int32) (a_made : Int32) (ls : Array Slot) (H : Heap) (locs : List Loc) (uu : (Int32 × Int32)), lv_has ls 10 [(0, .ref h_a), (1, .long l1), (3, .int l3), (4, .long l4), (6, .int l6), (7, .int l7), (8, .int l8)] → va_P (dC, dI) zCl [(h_a, .inr (4, [.int a_thrown, .int a_count, .ref h_a_names, .ref h_a_lengths, .ref h_a_serials, .ref h_a_targets, .int a_latest, .long a_hand, .int a_handLength, .int a_foundSerial, .int a_rows, .ref h_a_rowBytes, .ref h_a_rowLengths, .int a_places, .ref h_a_placeBytes, .ref h_a_placeLengths, .int a_off, .int a_left, .int a_made])), (h_a_placeBytes, .inl (cL, 64, .inr (.inl a_placeBytes))), (h_a_placeLengths, .inl (cI, 64, .inl a_placeLengths))] H → va_D A [(h_a, .inr (4, [.int a_thrown, .int a_count, .ref h_a_names, .ref h_a_lengths, .ref h_a_serials, .ref h_a_targets, .int a_latest, .long a_hand, .int a_handLength, .int a_foundSerial, .int a_rows, .ref h_a_rowBytes, .ref h_a_rowLengths, .int a_places, .ref h_a_placeBytes, .ref h_a_placeLengths, .int a_off, .int a_left, .int a_made])), (h_a_placeBytes, .inl (cL, 64, .inr (.inl a_placeBytes))), (h_a_placeLengths, .inl (cI, 64, .inl a_placeLengths))] → va_S A s.heap H locs → m_M_beginnings_l6 l1 l3 l4 l6 a_placeBytes a_placeLengths a_places n l7 l8 = some uu → (∀ (ls : Array Slot) (H : Heap) (locs : List Loc), lv_has ls 10 [(0, .ref h_a), (1, .long l1), (3, .int l3), (4, .long l4), (6, .int l6), (7, .int uu.1), (8, .int uu.2)] → va_P (dC, dI) zCl [(h_a, .inr (4, [.int a_thrown, .int a_count, .ref h_a_names, .ref h_a_lengths, .ref h_a_serials, .ref h_a_targets, .int a_latest, .long a_hand, .int a_handLength, .int a_foundSerial, .int a_rows, .ref h_a_rowBytes, .ref h_a_rowLengths, .int a_places, .ref h_a_placeBytes, .ref h_a_placeLengths, .int a_off, .int a_left, .int a_made])), (h_a_placeBytes, .inl (cL, 64, .inr (.inl a_placeBytes))), (h_a_placeLengths, .inl (cI, 64, .inl a_placeLengths))] H → va_D A [(h_a, .inr (4, [.int a_thrown, .int a_count, .ref h_a_names, .ref h_a_lengths, .ref h_a_serials, .ref h_a_targets, .int a_latest, .long a_hand, .int a_handLength, .int a_foundSerial, .int a_rows, .ref h_a_rowBytes, .ref h_a_rowLengths, .int a_places, .ref h_a_placeBytes, .ref h_a_placeLengths, .int a_off, .int a_left, .int a_made])), (h_a_placeBytes, .inl (cL, 64, .inr (.inl a_placeBytes))), (h_a_placeLengths, .inl (cI, 64, .inl a_placeLengths))] → va_S A s.heap H locs → W p l e (headSpec zw_Mod_beginnings ({ frames := 2, cells := 0, slots := 0, locals := 47 })).room s m ([.ref h_a, .long x0, .int x1, .long x2, .int x3] : List Value).toArray below meth c H locs 0 0 Q (F0 m 90 ls [])) → W p l e (headSpec zw_Mod_beginnings ({ frames := 2, cells := 0, slots := 0, locals := 47 })).room s m ([.ref h_a, .long x0, .int x1, .long x2, .int x3] : List Value).toArray below meth c H locs 0 0 Q (F0 m 6 ls []) := by
    intro n
    induction n with
    | zero =>
      intro l1 l3 l4 l6 l7 l8 a_names a_lengths a_serials a_targets a_rowBytes a_rowLengths a_placeBytes a_placeLengths a_thrown a_count a_latest a_hand a_handLength a_foundSerial a_rows a_places a_off a_left a_made ls H locs uu hl hP hD hS hm K
      rw [m_M_beginnings_l6] at hm
      cases hm
    | succ n ih =>
      intro l1 l3 l4 l6 l7 l8 a_names a_lengths a_serials a_targets a_rowBytes a_rowLengths a_placeBytes a_placeLengths a_thrown a_count a_latest a_hand a_handLength a_foundSerial a_rows a_places a_off a_left a_made ls H locs uu hl hP hD hS hm K
      rw [m_M_beginnings_l6] at hm
      refine lv_iload hx hb zd_Mod_beginnings_6 (lv_at hl 6 rfl) ?_
      refine lv_aload_n hx hb zd_Mod_beginnings_8 rfl (lv_at hl 0 rfl) ?_
      refine va_get (D := (dC, dI)) (ci := 4) (v := .int a_places) (C := zR_Mod) (T := zT_Mod) (N := 19) hx hb hts zu_Mod hown hK hP 0 rfl rfl 13 (by decide) (hts _ wk425) (fun _ h9 => h9) rfl zd_Mod_beginnings_9 ?_
      refine lv_icmp_ge (tgt := 90) hx hb zd_Mod_beginnings_12 (by decide) (fun hc => ?_) (fun hc => ?_)
      · rw [if_pos hc] at hm
        obtain rfl := Option.some.inj hm
        exact K ls H locs (lv_sub hl [0, 1, 2, 3, 4, 5, 6] rfl) hP hD hS
      · rw [if_neg hc] at hm
        refine lv_aload_n hx hb zd_Mod_beginnings_15 rfl (lv_at hl 0 rfl) ?_
        refine va_get (D := (dC, dI)) (ci := 4) (v := .ref h_a_placeBytes) (C := zR_Mod) (T := zT_Mod) (N := 19) hx hb hts zu_Mod hown hK hP 0 rfl rfl 14 (by decide) (hts _ wk405) (fun _ h9 => h9) rfl zd_Mod_beginnings_16 ?_
        refine lv_iload hx hb zd_Mod_beginnings_19 (lv_at hl 6 rfl) ?_
        by_cases hi : l8 < 0 ∨ 64 ≤ l8.toNatClampNeg
        · rw [if_pos hi] at hm; cases hm
        rw [if_neg hi] at hm
        refine va_lald hx hb hK hP 1 0 rfl rfl hi zd_Mod_beginnings_21 ?_
        refine lv_aload_n hx hb zd_Mod_beginnings_22 rfl (lv_at hl 0 rfl) ?_
        refine va_get (D := (dC, dI)) (ci := 4) (v := .ref h_a_placeLengths) (C := zR_Mod) (T := zT_Mod) (N := 19) hx hb hts zu_Mod hown hK hP 0 rfl rfl 15 (by decide) (hts _ wk406) (fun _ h9 => h9) rfl zd_Mod_beginnings_23 ?_
        refine lv_iload hx hb zd_Mod_beginnings_26 (lv_at hl 6 rfl) ?_
        by_cases hi : l8 < 0 ∨ 64 ≤ l8.toNatClampNeg
        · rw [if_pos hi] at hm; cases hm
        rw [if_neg hi] at hm
        refine va_iald hx hb hK hP 2 1 rfl rfl hi zd_Mod_beginnings_28 ?_
        refine lv_lload_n hx hb zd_Mod_beginnings_29 rfl (lv_at hl 1 rfl) ?_
        refine lv_iload_n hx hb zd_Mod_beginnings_30 rfl (lv_at hl 2 rfl) ?_
        obtain ⟨u1, hu1, hm⟩ := Option.bind_eq_some_iff.mp hm
        have hPc := hP.sub (ws' := []) [] rfl
        have hDc := hD.sub (ws' := []) [] (by decide) rfl
        have hFc := va_free (wc := []) hD hS hA [] rfl
        refine va_calli (va_runS (As := [.long ((a_placeBytes l8.toNatClampNeg)), .int ((a_placeLengths l8.toNatClampNeg)), .long l1, .int l3]) (rest := []) ⟨hx, hb, hml, hown, hts⟩ (c_M_begins l dC dI cL cI H.size ((a_placeBytes l8.toNatClampNeg)) ((a_placeLengths l8.toNatClampNeg)) l1 l3 u1 hu1) (va_cwS 4 hts (zgS wk431 wk432 wk298 wk417) rfl rfl rfl zh_Mod_begins.2 ⟨Nat.le_of_ble_eq_true rfl, Nat.le_of_ble_eq_true rfl⟩) ⟨fun a U g mk q => by obtain ⟨q0, q1, qP, qK, qD⟩ := q; exact ⟨q0, q1, qP, va_K.moved (u := U) (U := U.calling g mk a) (Vm.Alike.refl U.vm) qK, qD⟩, fun U hU hW => ⟨rfl, by rw [hU], by rw [hU]; exact hPc, va_K.moved hW.alike hK, hDc.weaken (fun _ _ _ _ => trivial)⟩⟩ rfl rfl hl.1 rfl (lv_room (Nat.le_of_ble_eq_true rfl)) zd_Mod_beginnings_31 ⟨Nat.le_of_ble_eq_true rfl, Nat.le_of_ble_eq_true rfl⟩) hS (fun q _ h => hFc q h) hFc (fun r1 _ t H1 locs ht hvm hw hB hz1 hk1 hS => ?_)
        subst hw
        obtain ⟨hP1, hD1⟩ := hB
        rw [ht] at hP1
        obtain ⟨hP, hD⟩ := va_join (wr := [(h_a, .inr (4, [.int a_thrown, .int a_count, .ref h_a_names, .ref h_a_lengths, .ref h_a_serials, .ref h_a_targets, .int a_latest, .long a_hand, .int a_handLength, .int a_foundSerial, .int a_rows, .ref h_a_rowBytes, .ref h_a_rowLengths, .int a_places, .ref h_a_placeBytes, .ref h_a_placeLengths, .int a_off, .int a_left, .int a_made])), (h_a_placeBytes, .inl (cL, 64, .inr (.inl a_placeBytes))), (h_a_placeLengths, .inl (cI, 64, .inl a_placeLengths))]) (w1 := []) hP hD [] [0, 1, 2] rfl rfl (by decide) (by decide) hk1 hFc hP1 hD1
        generalize H1 = H at hP hS ⊢
        have hP : va_P (dC, dI) zCl [(h_a, .inr (4, [.int a_thrown, .int a_count, .ref h_a_names, .ref h_a_lengths, .ref h_a_serials, .ref h_a_targets, .int a_latest, .long a_hand, .int a_handLength, .int a_foundSerial, .int a_rows, .ref h_a_rowBytes, .ref h_a_rowLengths, .int a_places, .ref h_a_placeBytes, .ref h_a_placeLengths, .int a_off, .int a_left, .int a_made])), (h_a_placeBytes, .inl (cL, 64, .inr (.inl a_placeBytes))), (h_a_placeLengths, .inl (cI, 64, .inl a_placeLengths))] H := hP.sub [0, 1, 2] rfl
        have hD : va_D A [(h_a, .inr (4, [.int a_thrown, .int a_count, .ref h_a_names, .ref h_a_lengths, .ref h_a_serials, .ref h_a_targets, .int a_latest, .long a_hand, .int a_handLength, .int a_foundSerial, .int a_rows, .ref h_a_rowBytes, .ref h_a_rowLengths, .int a_places, .ref h_a_placeBytes, .ref h_a_placeLengths, .int a_off, .int a_left, .int a_made])), (h_a_placeBytes, .inl (cL, 64, .inr (.inl a_placeBytes))), (h_a_placeLengths, .inl (cI, 64, .inl a_placeLengths))] := hD.sub [0, 1, 2] (by decide) rfl
        refine lv_if_ne (tgt := 61) hx hb zd_Mod_beginnings_34 (by decide) (fun hc => ?_) (fun hc => ?_)
        · rw [if_neg hc] at hm
          refine lv_iconst (v := 1) hx hb zd_Mod_beginnings_61 (by decide) ?_
          refine lv_goto (tgt := 66) hx hb zd_Mod_beginnings_62 (by decide) ?_
          refine lv_istore (lv' := [(9, .int 1), (0, .ref h_a), (1, .long l1), (3, .int l3), (4, .long l4), (6, .int l6), (7, .int l7), (8, .int l8)]) hx hb zd_Mod_beginnings_66 hl (by decide) rfl (fun ls hl => ?_)
          refine lv_iload hx hb zd_Mod_beginnings_68 (lv_at hl 0 rfl) ?_
          refine lv_if_eq (tgt := 80) hx hb zd_Mod_beginnings_70 (by decide) (fun hc => ?_) (fun hc => ?_)
          · rw [if_pos hc] at hm
            refine lv_iload hx hb zd_Mod_beginnings_80 (lv_at hl 6 rfl) ?_
            refine lv_istore (lv' := [(7, .int l7), (9, .int 1), (0, .ref h_a), (1, .long l1), (3, .int l3), (4, .long l4), (6, .int l6), (8, .int l8)]) hx hb zd_Mod_beginnings_82 hl (by decide) rfl (fun ls hl => ?_)
            refine lv_iinc (k := 7) (v := (l8 + 1)) (lv' := [(8, .int ((l8 + 1))), (7, .int l7), (9, .int 1), (0, .ref h_a), (1, .long l1), (3, .int l3), (4, .long l4), (6, .int l6)]) hx hb zd_Mod_beginnings_84 hl rfl rfl (by decide) rfl (fun ls hl => ?_)
            refine lv_goto (tgt := 6) hx hb zd_Mod_beginnings_87 (by decide) ?_
            exact ih l1 l3 l4 l6 l7 ((l8 + 1)) a_names a_lengths a_serials a_targets a_rowBytes a_rowLengths a_placeBytes a_placeLengths a_thrown a_count a_latest a_hand a_handLength a_foundSerial a_rows a_places a_off a_left a_made ls H locs uu (lv_sub hl [3, 4, 5, 6, 7, 1, 0] rfl) hP hD hS hm K
          · rw [if_neg hc] at hm
            refine lv_iload hx hb zd_Mod_beginnings_73 (lv_at hl 6 rfl) ?_
            refine lv_iconst (v := 1) hx hb zd_Mod_beginnings_75 (by decide) ?_
            refine lv_iadd hx hb zd_Mod_beginnings_76 ?_
            refine lv_goto (tgt := 82) hx hb zd_Mod_beginnings_77 (by decide) ?_
            refine lv_istore (lv' := [(7, .int ((l7 + 1))), (9, .int 1), (0, .ref h_a), (1, .long l1), (3, .int l3), (4, .long l4), (6, .int l6), (8, .int l8)]) hx hb zd_Mod_beginnings_82 hl (by decide) rfl (fun ls hl => ?_)
            refine lv_iinc (k := 7) (v := (l8 + 1)) (lv' := [(8, .int ((l8 + 1))), (7, .int ((l7 + 1))), (9, .int 1), (0, .ref h_a), (1, .long l1), (3, .int l3), (4, .long l4), (6, .int l6)]) hx hb zd_Mod_beginnings_84 hl rfl rfl (by decide) rfl (fun ls hl => ?_)
            refine lv_goto (tgt := 6) hx hb zd_Mod_beginnings_87 (by decide) ?_
            exact ih l1 l3 l4 l6 ((l7 + 1)) ((l8 + 1)) a_names a_lengths a_serials a_targets a_rowBytes a_rowLengths a_placeBytes a_placeLengths a_thrown a_count a_latest a_hand a_handLength a_foundSerial a_rows a_places a_off a_left a_made ls H locs uu (lv_sub hl [3, 4, 5, 6, 7, 1, 0] rfl) hP hD hS hm K
        · rw [if_pos hc] at hm
          refine lv_aload_n hx hb zd_Mod_beginnings_37 rfl (lv_at hl 0 rfl) ?_
          refine va_get (D := (dC, dI)) (ci := 4) (v := .ref h_a_placeBytes) (C := zR_Mod) (T := zT_Mod) (N := 19) hx hb hts zu_Mod hown hK hP 0 rfl rfl 14 (by decide) (hts _ wk405) (fun _ h9 => h9) rfl zd_Mod_beginnings_38 ?_
          refine lv_iload hx hb zd_Mod_beginnings_41 (lv_at hl 6 rfl) ?_
          by_cases hi : l8 < 0 ∨ 64 ≤ l8.toNatClampNeg
          · rw [if_pos hi] at hm; cases hm
          rw [if_neg hi] at hm
          refine va_lald hx hb hK hP 1 0 rfl rfl hi zd_Mod_beginnings_43 ?_
          refine lv_aload_n hx hb zd_Mod_beginnings_44 rfl (lv_at hl 0 rfl) ?_
          refine va_get (D := (dC, dI)) (ci := 4) (v := .ref h_a_placeLengths) (C := zR_Mod) (T := zT_Mod) (N := 19) hx hb hts zu_Mod hown hK hP 0 rfl rfl 15 (by decide) (hts _ wk406) (fun _ h9 => h9) rfl zd_Mod_beginnings_45 ?_
          refine lv_iload hx hb zd_Mod_beginnings_48 (lv_at hl 6 rfl) ?_
          by_cases hi : l8 < 0 ∨ 64 ≤ l8.toNatClampNeg
          · rw [if_pos hi] at hm; cases hm
          rw [if_neg hi] at hm
          refine va_iald hx hb hK hP 2 1 rfl rfl hi zd_Mod_beginnings_50 ?_
          refine lv_lload hx hb zd_Mod_beginnings_51 (lv_at hl 3 rfl) ?_
          refine lv_iload hx hb zd_Mod_beginnings_53 (lv_at hl 4 rfl) ?_
          obtain ⟨u2, hu2, hm⟩ := Option.bind_eq_some_iff.mp hm
          have hPc := hP.sub (ws' := []) [] rfl
          have hDc := hD.sub (ws' := []) [] (by decide) rfl
          have hFc := va_free (wc := []) hD hS hA [] rfl
          refine va_calli (va_runS (As := [.long ((a_placeBytes l8.toNatClampNeg)), .int ((a_placeLengths l8.toNatClampNeg)), .long l4, .int l6]) (rest := []) ⟨hx, hb, hml, hown, hts⟩ (c_M_begins l dC dI cL cI H.size ((a_placeBytes l8.toNatClampNeg)) ((a_placeLengths l8.toNatClampNeg)) l4 l6 u2 hu2) (va_cwS 4 hts (zgS wk431 wk432 wk298 wk417) rfl rfl rfl zh_Mod_begins.2 ⟨Nat.le_of_ble_eq_true rfl, Nat.le_of_ble_eq_true rfl⟩) ⟨fun a U g mk q => by obtain ⟨q0, q1, qP, qK, qD⟩ := q; exact ⟨q0, q1, qP, va_K.moved (u := U) (U := U.calling g mk a) (Vm.Alike.refl U.vm) qK, qD⟩, fun U hU hW => ⟨rfl, by rw [hU], by rw [hU]; exact hPc, va_K.moved hW.alike hK, hDc.weaken (fun _ _ _ _ => trivial)⟩⟩ rfl rfl hl.1 rfl (lv_room (Nat.le_of_ble_eq_true rfl)) zd_Mod_beginnings_55 ⟨Nat.le_of_ble_eq_true rfl, Nat.le_of_ble_eq_true rfl⟩) hS (fun q _ h => hFc q h) hFc (fun r1 _ t H1 locs ht hvm hw hB hz1 hk1 hS => ?_)
          subst hw
          obtain ⟨hP1, hD1⟩ := hB
          rw [ht] at hP1
          obtain ⟨hP, hD⟩ := va_join (wr := [(h_a, .inr (4, [.int a_thrown, .int a_count, .ref h_a_names, .ref h_a_lengths, .ref h_a_serials, .ref h_a_targets, .int a_latest, .long a_hand, .int a_handLength, .int a_foundSerial, .int a_rows, .ref h_a_rowBytes, .ref h_a_rowLengths, .int a_places, .ref h_a_placeBytes, .ref h_a_placeLengths, .int a_off, .int a_left, .int a_made])), (h_a_placeBytes, .inl (cL, 64, .inr (.inl a_placeBytes))), (h_a_placeLengths, .inl (cI, 64, .inl a_placeLengths))]) (w1 := []) hP hD [] [0, 1, 2] rfl rfl (by decide) (by decide) hk1 hFc hP1 hD1
          generalize H1 = H at hP hS ⊢
          have hP : va_P (dC, dI) zCl [(h_a, .inr (4, [.int a_thrown, .int a_count, .ref h_a_names, .ref h_a_lengths, .ref h_a_serials, .ref h_a_targets, .int a_latest, .long a_hand, .int a_handLength, .int a_foundSerial, .int a_rows, .ref h_a_rowBytes, .ref h_a_rowLengths, .int a_places, .ref h_a_placeBytes, .ref h_a_placeLengths, .int a_off, .int a_left, .int a_made])), (h_a_placeBytes, .inl (cL, 64, .inr (.inl a_placeBytes))), (h_a_placeLengths, .inl (cI, 64, .inl a_placeLengths))] H := hP.sub [0, 1, 2] rfl
          have hD : va_D A [(h_a, .inr (4, [.int a_thrown, .int a_count, .ref h_a_names, .ref h_a_lengths, .ref h_a_serials, .ref h_a_targets, .int a_latest, .long a_hand, .int a_handLength, .int a_foundSerial, .int a_rows, .ref h_a_rowBytes, .ref h_a_rowLengths, .int a_places, .ref h_a_placeBytes, .ref h_a_placeLengths, .int a_off, .int a_left, .int a_made])), (h_a_placeBytes, .inl (cL, 64, .inr (.inl a_placeBytes))), (h_a_placeLengths, .inl (cI, 64, .inl a_placeLengths))] := hD.sub [0, 1, 2] (by decide) rfl
          refine lv_if_eq (tgt := 65) hx hb zd_Mod_beginnings_58 (by decide) (fun hc => ?_) (fun hc => ?_)
          · rw [if_pos hc] at hm
            refine lv_iconst (v := 0) hx hb zd_Mod_beginnings_65 (by decide) ?_
            refine lv_istore (lv' := [(9, .int 0), (0, .ref h_a), (1, .long l1), (3, .int l3), (4, .long l4), (6, .int l6), (7, .int l7), (8, .int l8)]) hx hb zd_Mod_beginnings_66 hl (by decide) rfl (fun ls hl => ?_)
            refine lv_iload hx hb zd_Mod_beginnings_68 (lv_at hl 0 rfl) ?_
            refine lv_if_eq (tgt := 80) hx hb zd_Mod_beginnings_70 (by decide) (fun hc => ?_) (fun hc => ?_)
            · rw [if_pos hc] at hm
              refine lv_iload hx hb zd_Mod_beginnings_80 (lv_at hl 6 rfl) ?_
              refine lv_istore (lv' := [(7, .int l7), (9, .int 0), (0, .ref h_a), (1, .long l1), (3, .int l3), (4, .long l4), (6, .int l6), (8, .int l8)]) hx hb zd_Mod_beginnings_82 hl (by decide) rfl (fun ls hl => ?_)
              refine lv_iinc (k := 7) (v := (l8 + 1)) (lv' := [(8, .int ((l8 + 1))), (7, .int l7), (9, .int 0), (0, .ref h_a), (1, .long l1), (3, .int l3), (4, .long l4), (6, .int l6)]) hx hb zd_Mod_beginnings_84 hl rfl rfl (by decide) rfl (fun ls hl => ?_)
              refine lv_goto (tgt := 6) hx hb zd_Mod_beginnings_87 (by decide) ?_
              exact ih l1 l3 l4 l6 l7 ((l8 + 1)) a_names a_lengths a_serials a_targets a_rowBytes a_rowLengths a_placeBytes a_placeLengths a_thrown a_count a_latest a_hand a_handLength a_foundSerial a_rows a_places a_off a_left a_made ls H locs uu (lv_sub hl [3, 4, 5, 6, 7, 1, 0] rfl) hP hD hS hm K
            · rw [if_neg hc] at hm
              refine lv_iload hx hb zd_Mod_beginnings_73 (lv_at hl 6 rfl) ?_
              refine lv_iconst (v := 1) hx hb zd_Mod_beginnings_75 (by decide) ?_
              refine lv_iadd hx hb zd_Mod_beginnings_76 ?_
              refine lv_goto (tgt := 82) hx hb zd_Mod_beginnings_77 (by decide) ?_
              refine lv_istore (lv' := [(7, .int ((l7 + 1))), (9, .int 0), (0, .ref h_a), (1, .long l1), (3, .int l3), (4, .long l4), (6, .int l6), (8, .int l8)]) hx hb zd_Mod_beginnings_82 hl (by decide) rfl (fun ls hl => ?_)
              refine lv_iinc (k := 7) (v := (l8 + 1)) (lv' := [(8, .int ((l8 + 1))), (7, .int ((l7 + 1))), (9, .int 0), (0, .ref h_a), (1, .long l1), (3, .int l3), (4, .long l4), (6, .int l6)]) hx hb zd_Mod_beginnings_84 hl rfl rfl (by decide) rfl (fun ls hl => ?_)
              refine lv_goto (tgt := 6) hx hb zd_Mod_beginnings_87 (by decide) ?_
              exact ih l1 l3 l4 l6 ((l7 + 1)) ((l8 + 1)) a_names a_lengths a_serials a_targets a_rowBytes a_rowLengths a_placeBytes a_placeLengths a_thrown a_count a_latest a_hand a_handLength a_foundSerial a_rows a_places a_off a_left a_made ls H locs uu (lv_sub hl [3, 4, 5, 6, 7, 1, 0] rfl) hP hD hS hm K
          · rw [if_neg hc] at hm
            refine lv_iconst (v := 1) hx hb zd_Mod_beginnings_61 (by decide) ?_
            refine lv_goto (tgt := 66) hx hb zd_Mod_beginnings_62 (by decide) ?_
            refine lv_istore (lv' := [(9, .int 1), (0, .ref h_a), (1, .long l1), (3, .int l3), (4, .long l4), (6, .int l6), (7, .int l7), (8, .int l8)]) hx hb zd_Mod_beginnings_66 hl (by decide) rfl (fun ls hl => ?_)
            refine lv_iload hx hb zd_Mod_beginnings_68 (lv_at hl 0 rfl) ?_
            refine lv_if_eq (tgt := 80) hx hb zd_Mod_beginnings_70 (by decide) (fun hc => ?_) (fun hc => ?_)
            · rw [if_pos hc] at hm
              refine lv_iload hx hb zd_Mod_beginnings_80 (lv_at hl 6 rfl) ?_
              refine lv_istore (lv' := [(7, .int l7), (9, .int 1), (0, .ref h_a), (1, .long l1), (3, .int l3), (4, .long l4), (6, .int l6), (8, .int l8)]) hx hb zd_Mod_beginnings_82 hl (by decide) rfl (fun ls hl => ?_)
              refine lv_iinc (k := 7) (v := (l8 + 1)) (lv' := [(8, .int ((l8 + 1))), (7, .int l7), (9, .int 1), (0, .ref h_a), (1, .long l1), (3, .int l3), (4, .long l4), (6, .int l6)]) hx hb zd_Mod_beginnings_84 hl rfl rfl (by decide) rfl (fun ls hl => ?_)
              refine lv_goto (tgt := 6) hx hb zd_Mod_beginnings_87 (by decide) ?_
              exact ih l1 l3 l4 l6 l7 ((l8 + 1)) a_names a_lengths a_serials a_targets a_rowBytes a_rowLengths a_placeBytes a_placeLengths a_thrown a_count a_latest a_hand a_handLength a_foundSerial a_rows a_places a_off a_left a_made ls H locs uu (lv_sub hl [3, 4, 5, 6, 7, 1, 0] rfl) hP hD hS hm K
            · rw [if_neg hc] at hm
              refine lv_iload hx hb zd_Mod_beginnings_73 (lv_at hl 6 rfl) ?_
              refine lv_iconst (v := 1) hx hb zd_Mod_beginnings_75 (by decide) ?_
              refine lv_iadd hx hb zd_Mod_beginnings_76 ?_
              refine lv_goto (tgt := 82) hx hb zd_Mod_beginnings_77 (by decide) ?_
              refine lv_istore (lv' := [(7, .int ((l7 + 1))), (9, .int 1), (0, .ref h_a), (1, .long l1), (3, .int l3), (4, .long l4), (6, .int l6), (8, .int l8)]) hx hb zd_Mod_beginnings_82 hl (by decide) rfl (fun ls hl => ?_)
              refine lv_iinc (k := 7) (v := (l8 + 1)) (lv' := [(8, .int ((l8 + 1))), (7, .int ((l7 + 1))), (9, .int 1), (0, .ref h_a), (1, .long l1), (3, .int l3), (4, .long l4), (6, .int l6)]) hx hb zd_Mod_beginnings_84 hl rfl rfl (by decide) rfl (fun ls hl => ?_)
              refine lv_goto (tgt := 6) hx hb zd_Mod_beginnings_87 (by decide) ?_
              exact ih l1 l3 l4 l6 ((l7 + 1)) ((l8 + 1)) a_names a_lengths a_serials a_targets a_rowBytes a_rowLengths a_placeBytes a_placeLengths a_thrown a_count a_latest a_hand a_handLength a_foundSerial a_rows a_places a_off a_left a_made ls H locs uu (lv_sub hl [3, 4, 5, 6, 7, 1, 0] rfl) hP hD hS hm K
  unfold m_M_beginnings at hm
  refine lv_iconst (v := 0) hx hb zd_Mod_beginnings_0 (by decide) ?_
  refine lv_istore (lv' := [(7, .int 0), (0, .ref h_a), (1, .long x0), (3, .int x1), (4, .long x2), (6, .int x3)]) hx hb zd_Mod_beginnings_1 hl (by decide) rfl (fun ls hl => ?_)
  refine lv_iconst (v := 0) hx hb zd_Mod_beginnings_3 (by decide) ?_
  refine lv_istore (lv' := [(8, .int 0), (7, .int 0), (0, .ref h_a), (1, .long x0), (3, .int x1), (4, .long x2), (6, .int x3)]) hx hb zd_Mod_beginnings_4 hl (by decide) rfl (fun ls hl => ?_)
  obtain ⟨u3, hu3, hm⟩ := Option.bind_eq_some_iff.mp hm
  refine L6 100 x0 x1 x2 x3 0 0 a_names a_lengths a_serials a_targets a_rowBytes a_rowLengths a_placeBytes a_placeLengths a_thrown a_count a_latest a_hand a_handLength a_foundSerial a_rows a_places a_off a_left a_made ls _ _ u3 (lv_sub hl [2, 3, 4, 5, 6, 1, 0] rfl) hP hD hS hu3 (fun ls H locs hl hP hD hS => ?_)
  refine lv_iload hx hb zd_Mod_beginnings_90 (lv_at hl 5 rfl) ?_
  obtain rfl := Option.some.inj hm
  exact KR 92 ls _ _ zd_Mod_beginnings_92 hP hD hS
set_option maxHeartbeats 4000000 in
set_option maxRecDepth 100000 in
theorem c_M_rowOf (l : Launch) (dC : Nat → ClassId) (dI : Nat → Nat → Nat) (cL cI : ClassId) (sz : Nat) (x0 : Int32) (u : Int64) (hm : m_M_rowOf x0 = some u) : Met l zy_Mod_rowOf zw_Mod_rowOf ({ frames := 0, cells := 0, slots := 0, locals := 0 }) (va_Pc [.int x0] (fun U => U.heap.size = sz ∧ va_P (dC, dI) zCl [] U.heap ∧ va_K (dC, dI) zCl [(cL, .long), (cI, .int)] U ∧ va_D (fun _ => True) [])) (va_Ql (fun (r : Int64) (_ : Unit) => u = r) (fun _ t => va_P (dC, dI) zCl [] t.heap ∧ va_D (va_A [] sz) []) (va_A [] sz)) 0 0 (va_A [] sz) := by
  refine Met.ofW (cc := zc_Mod_rowOf) (maxL := 1) (ret := (some .long)) (by decide) rfl ?_
  intro p e s m args below meth c s₁ B hml hv
  obtain ⟨rfl, hsz, hP, hK, hD0⟩ := hv
  have hx := B.exec
  have hb := B.bytes
  have hr := B.returns
  have hts0 := atoms_spec (ws := zw_Mod_rowOf) B.pre
  have hts : ∀ w ∈ WSg, w.before _ s = true := fun w h => hts0 w (List.mem_cons_of_mem _ h)
  clear hts0
  have hown : s.vm.findClass zR_Mod = some m.cls := findClass_of_methodNamed B.named
  have hlocks := B.notSynchronized
  subst hsz
  have hD := hD0.self (sz := s.heap.size)
  generalize hAe : va_A [] s.heap.size = A at hD ⊢
  have hA : ∀ q : Nat, s.heap.size ≤ q → A q := fun q h => by rw [← hAe]; exact Or.inr h
  have hS : va_S A s.heap s.heap [] := va_S.rf
  have hP : va_P (dC, dI) zCl [] s.heap := hP
  have hl := lv_entry ([.int x0]) (n := 1) (Nat.le_of_ble_eq_true rfl)
  rw [lg_entry_eq]
  generalize (lg_sl ([.int x0]) ++ List.replicate (1 - (lg_sl ([.int x0])).length) Slot.unset).toArray = ls at hl ⊢
  have hl : lv_has ls 1 [(0, .int x0)] := hl
  have KR : ∀ (pc : Nat) (ls : Array Slot) (H : Heap) (locs : List Loc), decode zc_Mod_rowOf pc = .ok (.lreturn, 1) → va_P (dC, dI) zCl [] H → va_D A [] → va_S A s.heap H locs → W p l e (headSpec zw_Mod_rowOf ({ frames := 0, cells := 0, slots := 0, locals := 0 })).room s m ([.int x0] : List Value).toArray below meth c H locs 0 0 (MQ below (va_Ql (fun (r : Int64) (_ : Unit) => u = r) (fun _ t => va_P (dC, dI) zCl [] t.heap ∧ va_D A []) A) ([.int x0] : List Value).toArray s 0 0 A) (F0 m pc ls [.long u]) := by
    intro pc ls H locs hd hP9 hD9 hS
    exact W.lret (v := u) hx hb hr (fun t ht hW => ⟨⟨u, (), rfl, rfl, by rw [ht]; exact hP9, hD9⟩, hS.F ht⟩) hS.2.2 hd
  generalize (MQ below (va_Ql (fun (r : Int64) (_ : Unit) => u = r) (fun _ t => va_P (dC, dI) zCl [] t.heap ∧ va_D A []) A) ([.int x0] : List Value).toArray s 0 0 A) = Q at KR ⊢
  unfold m_M_rowOf at hm
  refine lv_iload_n hx hb zd_Mod_rowOf_0 rfl (lv_at hl 0 rfl) ?_
  refine lv_sipush (v := 256) hx hb zd_Mod_rowOf_1 (by decide) ?_
  refine lv_idiv hx hb zd_Mod_rowOf_4 (by decide) ?_
  refine lv_i2l (v := ((x0 / 256) : Int32).toInt64) hx hb zd_Mod_rowOf_5 rfl ?_
  refine lv_iload_n hx hb zd_Mod_rowOf_6 rfl (lv_at hl 0 rfl) ?_
  refine lv_sipush (v := 256) hx hb zd_Mod_rowOf_7 (by decide) ?_
  refine lv_irem hx hb zd_Mod_rowOf_10 (by decide) ?_
  refine lv_i2l (v := ((x0 - x0 / 256 * 256) : Int32).toInt64) hx hb zd_Mod_rowOf_11 rfl ?_
  refine lv_bipush (v := 8) hx hb zd_Mod_rowOf_12 (by decide) ?_
  refine lv_lshl (v := (((x0 - x0 / 256 * 256) : Int32).toInt64 <<< ((8 : Int32).toInt64 &&& 63))) hx hb zd_Mod_rowOf_14 rfl ?_
  refine lv_lor hx hb zd_Mod_rowOf_15 ?_
  obtain rfl := Option.some.inj hm
  exact KR 16 ls _ _ zd_Mod_rowOf_16 hP hD hS
set_option maxHeartbeats 4000000 in
set_option maxRecDepth 100000 in
theorem c_M_layNames (l : Launch) (dC : Nat → ClassId) (dI : Nat → Nat → Nat) (cL cI : ClassId) (h_a h_a_names h_a_lengths h_a_serials h_a_targets h_a_rowBytes h_a_rowLengths h_a_placeBytes h_a_placeLengths : Nat) (sz : Nat) (x0 : Int32) (a_thrown : Int32) (a_count : Int32) (a_names : Nat → Int64) (a_lengths : Nat → Int32) (a_serials : Nat → Int32) (a_targets : Nat → Int32) (a_latest : Int32) (a_hand : Int64) (a_handLength : Int32) (a_foundSerial : Int32) (a_rows : Int32) (a_rowBytes : Nat → Int64) (a_rowLengths : Nat → Int32) (a_places : Int32) (a_placeBytes : Nat → Int64) (a_placeLengths : Nat → Int32) (a_off : Int32) (a_left : Int32) (a_made : Int32) (u : Int32 × (Nat → Int64) × (Nat → Int32)) (hm : m_M_layNames x0 a_count a_names a_lengths a_rowBytes a_rowLengths = some u) : Met l zy_Mod_layNames zw_Mod_layNames ({ frames := 1, cells := 0, slots := 0, locals := 23 }) (va_Pc [.ref h_a, .int x0] (fun U => U.heap.size = sz ∧ va_P (dC, dI) zCl [(h_a, .inr (4, [.int a_thrown, .int a_count, .ref h_a_names, .ref h_a_lengths, .ref h_a_serials, .ref h_a_targets, .int a_latest, .long a_hand, .int a_handLength, .int a_foundSerial, .int a_rows, .ref h_a_rowBytes, .ref h_a_rowLengths, .int a_places, .ref h_a_placeBytes, .ref h_a_placeLengths, .int a_off, .int a_left, .int a_made])), (h_a_names, .inl (cL, 24, .inr (.inl a_names))), (h_a_lengths, .inl (cI, 24, .inl a_lengths)), (h_a_rowBytes, .inl (cL, 25, .inr (.inl a_rowBytes))), (h_a_rowLengths, .inl (cI, 25, .inl a_rowLengths))] U.heap ∧ va_K (dC, dI) zCl [(cL, .long), (cI, .int)] U ∧ va_D (fun _ => True) [(h_a, .inr (4, [.int a_thrown, .int a_count, .ref h_a_names, .ref h_a_lengths, .ref h_a_serials, .ref h_a_targets, .int a_latest, .long a_hand, .int a_handLength, .int a_foundSerial, .int a_rows, .ref h_a_rowBytes, .ref h_a_rowLengths, .int a_places, .ref h_a_placeBytes, .ref h_a_placeLengths, .int a_off, .int a_left, .int a_made])), (h_a_names, .inl (cL, 24, .inr (.inl a_names))), (h_a_lengths, .inl (cI, 24, .inl a_lengths)), (h_a_rowBytes, .inl (cL, 25, .inr (.inl a_rowBytes))), (h_a_rowLengths, .inl (cI, 25, .inl a_rowLengths))])) (va_Qv (fun _ : Unit => True) (fun _ t => va_P (dC, dI) zCl [(h_a, .inr (4, [.int a_thrown, .int a_count, .ref h_a_names, .ref h_a_lengths, .ref h_a_serials, .ref h_a_targets, .int a_latest, .long a_hand, .int a_handLength, .int a_foundSerial, .int u.1, .ref h_a_rowBytes, .ref h_a_rowLengths, .int a_places, .ref h_a_placeBytes, .ref h_a_placeLengths, .int a_off, .int a_left, .int a_made])), (h_a_names, .inl (cL, 24, .inr (.inl a_names))), (h_a_lengths, .inl (cI, 24, .inl a_lengths)), (h_a_rowBytes, .inl (cL, 25, .inr (.inl u.2.1))), (h_a_rowLengths, .inl (cI, 25, .inl u.2.2))] t.heap ∧ va_D (va_A [(h_a, .inr (4, [.int a_thrown, .int a_count, .ref h_a_names, .ref h_a_lengths, .ref h_a_serials, .ref h_a_targets, .int a_latest, .long a_hand, .int a_handLength, .int a_foundSerial, .int a_rows, .ref h_a_rowBytes, .ref h_a_rowLengths, .int a_places, .ref h_a_placeBytes, .ref h_a_placeLengths, .int a_off, .int a_left, .int a_made])), (h_a_names, .inl (cL, 24, .inr (.inl a_names))), (h_a_lengths, .inl (cI, 24, .inl a_lengths)), (h_a_rowBytes, .inl (cL, 25, .inr (.inl a_rowBytes))), (h_a_rowLengths, .inl (cI, 25, .inl a_rowLengths))] sz) [(h_a, .inr (4, [.int a_thrown, .int a_count, .ref h_a_names, .ref h_a_lengths, .ref h_a_serials, .ref h_a_targets, .int a_latest, .long a_hand, .int a_handLength, .int a_foundSerial, .int u.1, .ref h_a_rowBytes, .ref h_a_rowLengths, .int a_places, .ref h_a_placeBytes, .ref h_a_placeLengths, .int a_off, .int a_left, .int a_made])), (h_a_names, .inl (cL, 24, .inr (.inl a_names))), (h_a_lengths, .inl (cI, 24, .inl a_lengths)), (h_a_rowBytes, .inl (cL, 25, .inr (.inl u.2.1))), (h_a_rowLengths, .inl (cI, 25, .inl u.2.2))]) (va_A [(h_a, .inr (4, [.int a_thrown, .int a_count, .ref h_a_names, .ref h_a_lengths, .ref h_a_serials, .ref h_a_targets, .int a_latest, .long a_hand, .int a_handLength, .int a_foundSerial, .int a_rows, .ref h_a_rowBytes, .ref h_a_rowLengths, .int a_places, .ref h_a_placeBytes, .ref h_a_placeLengths, .int a_off, .int a_left, .int a_made])), (h_a_names, .inl (cL, 24, .inr (.inl a_names))), (h_a_lengths, .inl (cI, 24, .inl a_lengths)), (h_a_rowBytes, .inl (cL, 25, .inr (.inl a_rowBytes))), (h_a_rowLengths, .inl (cI, 25, .inl a_rowLengths))] sz)) 0 0 (va_A [(h_a, .inr (4, [.int a_thrown, .int a_count, .ref h_a_names, .ref h_a_lengths, .ref h_a_serials, .ref h_a_targets, .int a_latest, .long a_hand, .int a_handLength, .int a_foundSerial, .int a_rows, .ref h_a_rowBytes, .ref h_a_rowLengths, .int a_places, .ref h_a_placeBytes, .ref h_a_placeLengths, .int a_off, .int a_left, .int a_made])), (h_a_names, .inl (cL, 24, .inr (.inl a_names))), (h_a_lengths, .inl (cI, 24, .inl a_lengths)), (h_a_rowBytes, .inl (cL, 25, .inr (.inl a_rowBytes))), (h_a_rowLengths, .inl (cI, 25, .inl a_rowLengths))] sz) := by
  refine Met.ofW (cc := zc_Mod_layNames) (maxL := 3) (ret := none) (by decide) rfl ?_
  intro p e s m args below meth c s₁ B hml hv
  obtain ⟨rfl, hsz, hP, hK, hD0⟩ := hv
  have hx := B.exec
  have hb := B.bytes
  have hr := B.returns
  have hts0 := atoms_spec (ws := zw_Mod_layNames) B.pre
  have hts : ∀ w ∈ WSg, w.before _ s = true := fun w h => hts0 w (List.mem_cons_of_mem _ h)
  clear hts0
  have hown : s.vm.findClass zR_Mod = some m.cls := findClass_of_methodNamed B.named
  have hlocks := B.notSynchronized
  subst hsz
  have hD := hD0.self (sz := s.heap.size)
  generalize hAe : va_A [(h_a, .inr (4, [.int a_thrown, .int a_count, .ref h_a_names, .ref h_a_lengths, .ref h_a_serials, .ref h_a_targets, .int a_latest, .long a_hand, .int a_handLength, .int a_foundSerial, .int a_rows, .ref h_a_rowBytes, .ref h_a_rowLengths, .int a_places, .ref h_a_placeBytes, .ref h_a_placeLengths, .int a_off, .int a_left, .int a_made])), (h_a_names, .inl (cL, 24, .inr (.inl a_names))), (h_a_lengths, .inl (cI, 24, .inl a_lengths)), (h_a_rowBytes, .inl (cL, 25, .inr (.inl a_rowBytes))), (h_a_rowLengths, .inl (cI, 25, .inl a_rowLengths))] s.heap.size = A at hD ⊢
  have hA : ∀ q : Nat, s.heap.size ≤ q → A q := fun q h => by rw [← hAe]; exact Or.inr h
  have hS : va_S A s.heap s.heap [] := va_S.rf
  have hP : va_P (dC, dI) zCl [(h_a, .inr (4, [.int a_thrown, .int a_count, .ref h_a_names, .ref h_a_lengths, .ref h_a_serials, .ref h_a_targets, .int a_latest, .long a_hand, .int a_handLength, .int a_foundSerial, .int a_rows, .ref h_a_rowBytes, .ref h_a_rowLengths, .int a_places, .ref h_a_placeBytes, .ref h_a_placeLengths, .int a_off, .int a_left, .int a_made])), (h_a_names, .inl (cL, 24, .inr (.inl a_names))), (h_a_lengths, .inl (cI, 24, .inl a_lengths)), (h_a_rowBytes, .inl (cL, 25, .inr (.inl a_rowBytes))), (h_a_rowLengths, .inl (cI, 25, .inl a_rowLengths))] s.heap := hP
  have hl := lv_entry ([.ref h_a, .int x0]) (n := 3) (Nat.le_of_ble_eq_true rfl)
  rw [lg_entry_eq]
  generalize (lg_sl ([.ref h_a, .int x0]) ++ List.replicate (3 - (lg_sl ([.ref h_a, .int x0])).length) Slot.unset).toArray = ls at hl ⊢
  have hl : lv_has ls 3 [(0, .ref h_a), (1, .int x0)] := hl
  have KR : ∀ (pc : Nat) (ls : Array Slot) (H : Heap) (locs : List Loc), decode zc_Mod_layNames pc = .ok (.return_, 1) → va_P (dC, dI) zCl [(h_a, .inr (4, [.int a_thrown, .int a_count, .ref h_a_names, .ref h_a_lengths, .ref h_a_serials, .ref h_a_targets, .int a_latest, .long a_hand, .int a_handLength, .int a_foundSerial, .int u.1, .ref h_a_rowBytes, .ref h_a_rowLengths, .int a_places, .ref h_a_placeBytes, .ref h_a_placeLengths, .int a_off, .int a_left, .int a_made])), (h_a_names, .inl (cL, 24, .inr (.inl a_names))), (h_a_lengths, .inl (cI, 24, .inl a_lengths)), (h_a_rowBytes, .inl (cL, 25, .inr (.inl u.2.1))), (h_a_rowLengths, .inl (cI, 25, .inl u.2.2))] H → va_D A [(h_a, .inr (4, [.int a_thrown, .int a_count, .ref h_a_names, .ref h_a_lengths, .ref h_a_serials, .ref h_a_targets, .int a_latest, .long a_hand, .int a_handLength, .int a_foundSerial, .int u.1, .ref h_a_rowBytes, .ref h_a_rowLengths, .int a_places, .ref h_a_placeBytes, .ref h_a_placeLengths, .int a_off, .int a_left, .int a_made])), (h_a_names, .inl (cL, 24, .inr (.inl a_names))), (h_a_lengths, .inl (cI, 24, .inl a_lengths)), (h_a_rowBytes, .inl (cL, 25, .inr (.inl u.2.1))), (h_a_rowLengths, .inl (cI, 25, .inl u.2.2))] → va_S A s.heap H locs → W p l e (headSpec zw_Mod_layNames ({ frames := 1, cells := 0, slots := 0, locals := 23 })).room s m ([.ref h_a, .int x0] : List Value).toArray below meth c H locs 0 0 (MQ below (va_Qv (fun _ : Unit => True) (fun _ t => va_P (dC, dI) zCl [(h_a, .inr (4, [.int a_thrown, .int a_count, .ref h_a_names, .ref h_a_lengths, .ref h_a_serials, .ref h_a_targets, .int a_latest, .long a_hand, .int a_handLength, .int a_foundSerial, .int u.1, .ref h_a_rowBytes, .ref h_a_rowLengths, .int a_places, .ref h_a_placeBytes, .ref h_a_placeLengths, .int a_off, .int a_left, .int a_made])), (h_a_names, .inl (cL, 24, .inr (.inl a_names))), (h_a_lengths, .inl (cI, 24, .inl a_lengths)), (h_a_rowBytes, .inl (cL, 25, .inr (.inl u.2.1))), (h_a_rowLengths, .inl (cI, 25, .inl u.2.2))] t.heap ∧ va_D A [(h_a, .inr (4, [.int a_thrown, .int a_count, .ref h_a_names, .ref h_a_lengths, .ref h_a_serials, .ref h_a_targets, .int a_latest, .long a_hand, .int a_handLength, .int a_foundSerial, .int u.1, .ref h_a_rowBytes, .ref h_a_rowLengths, .int a_places, .ref h_a_placeBytes, .ref h_a_placeLengths, .int a_off, .int a_left, .int a_made])), (h_a_names, .inl (cL, 24, .inr (.inl a_names))), (h_a_lengths, .inl (cI, 24, .inl a_lengths)), (h_a_rowBytes, .inl (cL, 25, .inr (.inl u.2.1))), (h_a_rowLengths, .inl (cI, 25, .inl u.2.2))]) A) ([.ref h_a, .int x0] : List Value).toArray s 0 0 A) (F0 m pc ls []) := by
    intro pc ls H locs hd hP9 hD9 hS
    exact W.vret hx hb hr (fun t ht hW => ⟨⟨(), rfl, trivial, by rw [ht]; exact hP9, hD9⟩, hS.F ht⟩) hS.2.2 hd
  generalize (MQ below (va_Qv (fun _ : Unit => True) (fun _ t => va_P (dC, dI) zCl [(h_a, .inr (4, [.int a_thrown, .int a_count, .ref h_a_names, .ref h_a_lengths, .ref h_a_serials, .ref h_a_targets, .int a_latest, .long a_hand, .int a_handLength, .int a_foundSerial, .int u.1, .ref h_a_rowBytes, .ref h_a_rowLengths, .int a_places, .ref h_a_placeBytes, .ref h_a_placeLengths, .int a_off, .int a_left, .int a_made])), (h_a_names, .inl (cL, 24, .inr (.inl a_names))), (h_a_lengths, .inl (cI, 24, .inl a_lengths)), (h_a_rowBytes, .inl (cL, 25, .inr (.inl u.2.1))), (h_a_rowLengths, .inl (cI, 25, .inl u.2.2))] t.heap ∧ va_D A [(h_a, .inr (4, [.int a_thrown, .int a_count, .ref h_a_names, .ref h_a_lengths, .ref h_a_serials, .ref h_a_targets, .int a_latest, .long a_hand, .int a_handLength, .int a_foundSerial, .int u.1, .ref h_a_rowBytes, .ref h_a_rowLengths, .int a_places, .ref h_a_placeBytes, .ref h_a_placeLengths, .int a_off, .int a_left, .int a_made])), (h_a_names, .inl (cL, 24, .inr (.inl a_names))), (h_a_lengths, .inl (cI, 24, .inl a_lengths)), (h_a_rowBytes, .inl (cL, 25, .inr (.inl u.2.1))), (h_a_rowLengths, .inl (cI, 25, .inl u.2.2))]) A) ([.ref h_a, .int x0] : List Value).toArray s 0 0 A) = Q at KR ⊢
  have L7 : ∀ (n : Nat) (l1 : Int32) (l2 : Int32) (a_names : Nat → Int64) (a_lengths : Nat → Int32) (a_serials : Nat → Int32) (a_targets : Nat → Int32) (a_rowBytes : Nat → Int64) (a_rowLengths : Nat → Int32) (a_placeBytes : Nat → Int64) (a_placeLengths : Nat → Int32) (a_thrown : Int32) (a_count : Int32) (a_latest : Int32) (a_hand : Int64) (a_handLength : Int32) (a_foundSerial : Int32) (a_rows : Int32) (a_places : Int32) (a_off : Int32) (a_left : Int32) (a_made : Int32) (ls : Array Slot) (H : Heap) (locs : List Loc) (uu : (Int32 × (Nat → Int64) × (Nat → Int32) × Int32)), lv_has ls 3 [(0, .ref h_a), (1, .int l1), (2, .int l2)] → va_P (dC, dI) zCl [(h_a, .inr (4, [.int a_thrown, .int a_count, .ref h_a_names, .ref h_a_lengths, .ref h_a_serials, .ref h_a_targets, .int a_latest, .long a_hand, .int a_handLength, .int a_foundSerial, .int a_rows, .ref h_a_rowBytes, .ref h_a_rowLengths, .int a_places, .ref h_a_placeBytes, .ref h_a_placeLengths, .int a_off, .int a_left, .int a_made])), (h_a_names, .inl (cL, 24, .inr (.inl a_names))), (h_a_lengths, .inl (cI, 24, .inl a_lengths)), (h_a_rowBytes, .inl (cL, 25, .inr (.inl a_rowBytes))), (h_a_rowLengths, .inl (cI, 25, .inl a_rowLengths))] H → va_D A [(h_a, .inr (4, [.int a_thrown, .int a_count, .ref h_a_names, .ref h_a_lengths, .ref h_a_serials, .ref h_a_targets, .int a_latest, .long a_hand, .int a_handLength, .int a_foundSerial, .int a_rows, .ref h_a_rowBytes, .ref h_a_rowLengths, .int a_places, .ref h_a_placeBytes, .ref h_a_placeLengths, .int a_off, .int a_left, .int a_made])), (h_a_names, .inl (cL, 24, .inr (.inl a_names))), (h_a_lengths, .inl (cI, 24, .inl a_lengths)), (h_a_rowBytes, .inl (cL, 25, .inr (.inl a_rowBytes))), (h_a_rowLengths, .inl (cI, 25, .inl a_rowLengths))] → va_S A s.heap H locs → m_M_layNames_l7 l1 a_names a_lengths a_count n l2 a_rowBytes a_rowLengths a_rows = some uu → (∀ (ls : Array Slot) (H : Heap) (locs : List Loc), lv_has ls 3 [(0, .ref h_a), (1, .int l1), (2, .int uu.1)] → va_P (dC, dI) zCl [(h_a, .inr (4, [.int a_thrown, .int a_count, .ref h_a_names, .ref h_a_lengths, .ref h_a_serials, .ref h_a_targets, .int a_latest, .long a_hand, .int a_handLength, .int a_foundSerial, .int uu.2.2.2, .ref h_a_rowBytes, .ref h_a_rowLengths, .int a_places, .ref h_a_placeBytes, .ref h_a_placeLengths, .int a_off, .int a_left, .int a_made])), (h_a_names, .inl (cL, 24, .inr (.inl a_names))), (h_a_lengths, .inl (cI, 24, .inl a_lengths)), (h_a_rowBytes, .inl (cL, 25, .inr (.inl uu.2.1))), (h_a_rowLengths, .inl (cI, 25, .inl uu.2.2.1))] H → va_D A [(h_a, .inr (4, [.int a_thrown, .int a_count, .ref h_a_names, .ref h_a_lengths, .ref h_a_serials, .ref h_a_targets, .int a_latest, .long a_hand, .int a_handLength, .int a_foundSerial, .int uu.2.2.2, .ref h_a_rowBytes, .ref h_a_rowLengths, .int a_places, .ref h_a_placeBytes, .ref h_a_placeLengths, .int a_off, .int a_left, .int a_made])), (h_a_names, .inl (cL, 24, .inr (.inl a_names))), (h_a_lengths, .inl (cI, 24, .inl a_lengths)), (h_a_rowBytes, .inl (cL, 25, .inr (.inl uu.2.1))), (h_a_rowLengths, .inl (cI, 25, .inl uu.2.2.1))] → va_S A s.heap H locs → W p l e (headSpec zw_Mod_layNames ({ frames := 1, cells := 0, slots := 0, locals := 23 })).room s m ([.ref h_a, .int x0] : List Value).toArray below meth c H locs 0 0 Q (F0 m 42 ls [])) → W p l e (headSpec zw_Mod_layNames ({ frames := 1, cells := 0, slots := 0, locals := 23 })).room s m ([.ref h_a, .int x0] : List Value).toArray below meth c H locs 0 0 Q (F0 m 7 ls []) := by
    intro n
    induction n with
    | zero =>
      intro l1 l2 a_names a_lengths a_serials a_targets a_rowBytes a_rowLengths a_placeBytes a_placeLengths a_thrown a_count a_latest a_hand a_handLength a_foundSerial a_rows a_places a_off a_left a_made ls H locs uu hl hP hD hS hm K
      rw [m_M_layNames_l7] at hm
      cases hm
    | succ n ih =>
      intro l1 l2 a_names a_lengths a_serials a_targets a_rowBytes a_rowLengths a_placeBytes a_placeLengths a_thrown a_count a_latest a_hand a_handLength a_foundSerial a_rows a_places a_off a_left a_made ls H locs uu hl hP hD hS hm K
      rw [m_M_layNames_l7] at hm
      refine lv_iload_n hx hb zd_Mod_layNames_7 rfl (lv_at hl 2 rfl) ?_
      refine lv_aload_n hx hb zd_Mod_layNames_8 rfl (lv_at hl 0 rfl) ?_
      refine va_get (D := (dC, dI)) (ci := 4) (v := .int a_count) (C := zR_Mod) (T := zT_Mod) (N := 19) hx hb hts zu_Mod hown hK hP 0 rfl rfl 1 (by decide) (hts _ wk408) (fun _ h9 => h9) rfl zd_Mod_layNames_9 ?_
      refine lv_icmp_ge (tgt := 42) hx hb zd_Mod_layNames_12 (by decide) (fun hc => ?_) (fun hc => ?_)
      · rw [if_pos hc] at hm
        obtain rfl := Option.some.inj hm
        exact K ls H locs (lv_sub hl [0, 1, 2] rfl) hP hD hS
      · rw [if_neg hc] at hm
        refine lv_iload_n hx hb zd_Mod_layNames_15 rfl (lv_at hl 2 rfl) ?_
        refine lv_iload_n hx hb zd_Mod_layNames_16 rfl (lv_at hl 1 rfl) ?_
        refine lv_icmp_eq (tgt := 36) hx hb zd_Mod_layNames_17 (by decide) (fun hc => ?_) (fun hc => ?_)
        · rw [if_pos hc] at hm
          refine lv_iinc (k := 2) (v := (l2 + 1)) (lv' := [(2, .int ((l2 + 1))), (0, .ref h_a), (1, .int l1)]) hx hb zd_Mod_layNames_36 hl rfl rfl (by decide) rfl (fun ls hl => ?_)
          refine lv_goto (tgt := 7) hx hb zd_Mod_layNames_39 (by decide) ?_
          exact ih l1 ((l2 + 1)) a_names a_lengths a_serials a_targets a_rowBytes a_rowLengths a_placeBytes a_placeLengths a_thrown a_count a_latest a_hand a_handLength a_foundSerial a_rows a_places a_off a_left a_made ls H locs uu (lv_sub hl [1, 2, 0] rfl) hP hD hS hm K
        · rw [if_neg hc] at hm
          refine lv_aload_n hx hb zd_Mod_layNames_20 rfl (lv_at hl 0 rfl) ?_
          refine lv_aload_n hx hb zd_Mod_layNames_21 rfl (lv_at hl 0 rfl) ?_
          refine va_get (D := (dC, dI)) (ci := 4) (v := .ref h_a_names) (C := zR_Mod) (T := zT_Mod) (N := 19) hx hb hts zu_Mod hown hK hP 0 rfl rfl 2 (by decide) (hts _ wk396) (fun _ h9 => h9) rfl zd_Mod_layNames_22 ?_
          refine lv_iload_n hx hb zd_Mod_layNames_25 rfl (lv_at hl 2 rfl) ?_
          by_cases hi : l2 < 0 ∨ 24 ≤ l2.toNatClampNeg
          · rw [if_pos hi] at hm; cases hm
          rw [if_neg hi] at hm
          refine va_lald hx hb hK hP 1 0 rfl rfl hi zd_Mod_layNames_26 ?_
          refine lv_aload_n hx hb zd_Mod_layNames_27 rfl (lv_at hl 0 rfl) ?_
          refine va_get (D := (dC, dI)) (ci := 4) (v := .ref h_a_lengths) (C := zR_Mod) (T := zT_Mod) (N := 19) hx hb hts zu_Mod hown hK hP 0 rfl rfl 3 (by decide) (hts _ wk397) (fun _ h9 => h9) rfl zd_Mod_layNames_28 ?_
          refine lv_iload_n hx hb zd_Mod_layNames_31 rfl (lv_at hl 2 rfl) ?_
          by_cases hi : l2 < 0 ∨ 24 ≤ l2.toNatClampNeg
          · rw [if_pos hi] at hm; cases hm
          rw [if_neg hi] at hm
          refine va_iald hx hb hK hP 2 1 rfl rfl hi zd_Mod_layNames_32 ?_
          obtain ⟨u1, hu1, hm⟩ := Option.bind_eq_some_iff.mp hm
          have hPc := hP.sub (ws' := [(h_a, .inr (4, [.int a_thrown, .int a_count, .ref h_a_names, .ref h_a_lengths, .ref h_a_serials, .ref h_a_targets, .int a_latest, .long a_hand, .int a_handLength, .int a_foundSerial, .int a_rows, .ref h_a_rowBytes, .ref h_a_rowLengths, .int a_places, .ref h_a_placeBytes, .ref h_a_placeLengths, .int a_off, .int a_left, .int a_made])), (h_a_rowBytes, .inl (cL, 25, .inr (.inl a_rowBytes))), (h_a_rowLengths, .inl (cI, 25, .inl a_rowLengths))]) [0, 3, 4] rfl
          have hDc := hD.sub (ws' := [(h_a, .inr (4, [.int a_thrown, .int a_count, .ref h_a_names, .ref h_a_lengths, .ref h_a_serials, .ref h_a_targets, .int a_latest, .long a_hand, .int a_handLength, .int a_foundSerial, .int a_rows, .ref h_a_rowBytes, .ref h_a_rowLengths, .int a_places, .ref h_a_placeBytes, .ref h_a_placeLengths, .int a_off, .int a_left, .int a_made])), (h_a_rowBytes, .inl (cL, 25, .inr (.inl a_rowBytes))), (h_a_rowLengths, .inl (cI, 25, .inl a_rowLengths))]) [0, 3, 4] (by decide) rfl
          have hFc := va_free (wc := [(h_a, .inr (4, [.int a_thrown, .int a_count, .ref h_a_names, .ref h_a_lengths, .ref h_a_serials, .ref h_a_targets, .int a_latest, .long a_hand, .int a_handLength, .int a_foundSerial, .int a_rows, .ref h_a_rowBytes, .ref h_a_rowLengths, .int a_places, .ref h_a_placeBytes, .ref h_a_placeLengths, .int a_off, .int a_left, .int a_made])), (h_a_rowBytes, .inl (cL, 25, .inr (.inl a_rowBytes))), (h_a_rowLengths, .inl (cI, 25, .inl a_rowLengths))]) hD hS hA [0, 3, 4] rfl
          refine va_callv (va_runV (As := [.long ((a_names l2.toNatClampNeg)), .int ((a_lengths l2.toNatClampNeg))]) (rest := []) ⟨hx, hb, hml, hown, hts⟩ (c_M_row l dC dI cL cI h_a h_a_names h_a_lengths h_a_serials h_a_targets h_a_rowBytes h_a_rowLengths h_a_placeBytes h_a_placeLengths H.size ((a_names l2.toNatClampNeg)) ((a_lengths l2.toNatClampNeg)) a_thrown a_count a_names a_lengths a_serials a_targets a_latest a_hand a_handLength a_foundSerial a_rows a_rowBytes a_rowLengths a_places a_placeBytes a_placeLengths a_off a_left a_made u1 hu1) (cwV 2 hts (zgV wk435 wk436 wk437 wk298 wk422) rfl rfl rfl zh_Mod_row ⟨Nat.le_of_ble_eq_true rfl, Nat.le_of_ble_eq_true rfl⟩) ⟨fun a U g mk q => by obtain ⟨q0, q1, qP, qK, qD⟩ := q; exact ⟨q0, q1, qP, va_K.moved (u := U) (U := U.calling g mk a) (Vm.Alike.refl U.vm) qK, qD⟩, va_recv hK hP (ci := 4) (q0 := 0) rfl rfl, fun U hU hW => ⟨rfl, by rw [hU], by rw [hU]; exact hPc, va_K.moved hW.alike hK, hDc.weaken (fun _ _ _ _ => trivial)⟩⟩ rfl rfl hl.1 rfl (lv_room (Nat.le_of_ble_eq_true rfl)) zd_Mod_layNames_33 ⟨Nat.le_of_ble_eq_true rfl, Nat.le_of_ble_eq_true rfl⟩) hS (fun q _ h => hFc q h) hFc (fun _ t H1 locs ht hvm hw hB hz1 hk1 hS => ?_)
          obtain ⟨hP1, hD1⟩ := hB
          rw [ht] at hP1
          obtain ⟨hP, hD⟩ := va_join (wr := [(h_a_names, .inl (cL, 24, .inr (.inl a_names))), (h_a_lengths, .inl (cI, 24, .inl a_lengths))]) (w1 := [(h_a, .inr (4, [.int a_thrown, .int a_count, .ref h_a_names, .ref h_a_lengths, .ref h_a_serials, .ref h_a_targets, .int a_latest, .long a_hand, .int a_handLength, .int a_foundSerial, .int u1.1, .ref h_a_rowBytes, .ref h_a_rowLengths, .int a_places, .ref h_a_placeBytes, .ref h_a_placeLengths, .int a_off, .int a_left, .int a_made])), (h_a_rowBytes, .inl (cL, 25, .inr (.inl u1.2.1))), (h_a_rowLengths, .inl (cI, 25, .inl u1.2.2))]) hP hD [0, 3, 4] [1, 2] rfl rfl (by decide) (by decide) hk1 hFc hP1 hD1
          generalize H1 = H at hP hS ⊢
          have hP : va_P (dC, dI) zCl [(h_a, .inr (4, [.int a_thrown, .int a_count, .ref h_a_names, .ref h_a_lengths, .ref h_a_serials, .ref h_a_targets, .int a_latest, .long a_hand, .int a_handLength, .int a_foundSerial, .int u1.1, .ref h_a_rowBytes, .ref h_a_rowLengths, .int a_places, .ref h_a_placeBytes, .ref h_a_placeLengths, .int a_off, .int a_left, .int a_made])), (h_a_names, .inl (cL, 24, .inr (.inl a_names))), (h_a_lengths, .inl (cI, 24, .inl a_lengths)), (h_a_rowBytes, .inl (cL, 25, .inr (.inl u1.2.1))), (h_a_rowLengths, .inl (cI, 25, .inl u1.2.2))] H := hP.sub [2, 0, 1, 3, 4] rfl
          have hD : va_D A [(h_a, .inr (4, [.int a_thrown, .int a_count, .ref h_a_names, .ref h_a_lengths, .ref h_a_serials, .ref h_a_targets, .int a_latest, .long a_hand, .int a_handLength, .int a_foundSerial, .int u1.1, .ref h_a_rowBytes, .ref h_a_rowLengths, .int a_places, .ref h_a_placeBytes, .ref h_a_placeLengths, .int a_off, .int a_left, .int a_made])), (h_a_names, .inl (cL, 24, .inr (.inl a_names))), (h_a_lengths, .inl (cI, 24, .inl a_lengths)), (h_a_rowBytes, .inl (cL, 25, .inr (.inl u1.2.1))), (h_a_rowLengths, .inl (cI, 25, .inl u1.2.2))] := hD.sub [2, 0, 1, 3, 4] (by decide) rfl
          refine lv_iinc (k := 2) (v := (l2 + 1)) (lv' := [(2, .int ((l2 + 1))), (0, .ref h_a), (1, .int l1)]) hx hb zd_Mod_layNames_36 hl rfl rfl (by decide) rfl (fun ls hl => ?_)
          refine lv_goto (tgt := 7) hx hb zd_Mod_layNames_39 (by decide) ?_
          exact ih l1 ((l2 + 1)) a_names a_lengths a_serials a_targets u1.2.1 u1.2.2 a_placeBytes a_placeLengths a_thrown a_count a_latest a_hand a_handLength a_foundSerial u1.1 a_places a_off a_left a_made ls H locs uu (lv_sub hl [1, 2, 0] rfl) hP hD hS hm K
  unfold m_M_layNames at hm
  refine lv_aload_n hx hb zd_Mod_layNames_0 rfl (lv_at hl 0 rfl) ?_
  refine lv_iconst (v := 0) hx hb zd_Mod_layNames_1 (by decide) ?_
  refine va_put (D := (dC, dI)) (ci := 4) (v := .int 0) (ty := .int) (C := zR_Mod) (T := zT_Mod) (N := 19) hx hb hts zu_Mod zt_Mod zt_Mod_ok zn_Mod hown hK hP hD hS 0 rfl rfl 10 (by decide) (hts _ wk423) (fun _ h9 => h9) rfl (by decide +kernel) rfl rfl (Nat.le_of_ble_eq_true rfl) zd_Mod_layNames_2 (fun H locs hP hD hS => ?_)
  have hP : va_P (dC, dI) zCl [(h_a, .inr (4, [.int a_thrown, .int a_count, .ref h_a_names, .ref h_a_lengths, .ref h_a_serials, .ref h_a_targets, .int a_latest, .long a_hand, .int a_handLength, .int a_foundSerial, .int 0, .ref h_a_rowBytes, .ref h_a_rowLengths, .int a_places, .ref h_a_placeBytes, .ref h_a_placeLengths, .int a_off, .int a_left, .int a_made])), (h_a_names, .inl (cL, 24, .inr (.inl a_names))), (h_a_lengths, .inl (cI, 24, .inl a_lengths)), (h_a_rowBytes, .inl (cL, 25, .inr (.inl a_rowBytes))), (h_a_rowLengths, .inl (cI, 25, .inl a_rowLengths))] H := hP
  have hD : va_D A [(h_a, .inr (4, [.int a_thrown, .int a_count, .ref h_a_names, .ref h_a_lengths, .ref h_a_serials, .ref h_a_targets, .int a_latest, .long a_hand, .int a_handLength, .int a_foundSerial, .int 0, .ref h_a_rowBytes, .ref h_a_rowLengths, .int a_places, .ref h_a_placeBytes, .ref h_a_placeLengths, .int a_off, .int a_left, .int a_made])), (h_a_names, .inl (cL, 24, .inr (.inl a_names))), (h_a_lengths, .inl (cI, 24, .inl a_lengths)), (h_a_rowBytes, .inl (cL, 25, .inr (.inl a_rowBytes))), (h_a_rowLengths, .inl (cI, 25, .inl a_rowLengths))] := hD
  refine lv_iconst (v := 0) hx hb zd_Mod_layNames_5 (by decide) ?_
  refine lv_istore_n (lv' := [(2, .int 0), (0, .ref h_a), (1, .int x0)]) hx hb zd_Mod_layNames_6 rfl hl (by decide) rfl (fun ls hl => ?_)
  obtain ⟨u2, hu2, hm⟩ := Option.bind_eq_some_iff.mp hm
  refine L7 100 x0 0 a_names a_lengths a_serials a_targets a_rowBytes a_rowLengths a_placeBytes a_placeLengths a_thrown a_count a_latest a_hand a_handLength a_foundSerial 0 a_places a_off a_left a_made ls _ _ u2 (lv_sub hl [1, 2, 0] rfl) hP hD hS hu2 (fun ls H locs hl hP hD hS => ?_)
  obtain rfl := Option.some.inj hm
  exact KR 42 ls _ _ zd_Mod_layNames_42 hP hD hS
set_option maxHeartbeats 4000000 in
set_option maxRecDepth 100000 in
theorem c_M_laySerials (l : Launch) (dC : Nat → ClassId) (dI : Nat → Nat → Nat) (cL cI : ClassId) (h_a h_a_names h_a_lengths h_a_serials h_a_targets h_a_rowBytes h_a_rowLengths h_a_placeBytes h_a_placeLengths : Nat) (sz : Nat) (x0 : Int32) (a_thrown : Int32) (a_count : Int32) (a_names : Nat → Int64) (a_lengths : Nat → Int32) (a_serials : Nat → Int32) (a_targets : Nat → Int32) (a_latest : Int32) (a_hand : Int64) (a_handLength : Int32) (a_foundSerial : Int32) (a_rows : Int32) (a_rowBytes : Nat → Int64) (a_rowLengths : Nat → Int32) (a_places : Int32) (a_placeBytes : Nat → Int64) (a_placeLengths : Nat → Int32) (a_off : Int32) (a_left : Int32) (a_made : Int32) (u : Int32 × (Nat → Int64) × (Nat → Int32)) (hm : m_M_laySerials x0 a_count a_serials a_rowBytes a_rowLengths = some u) : Met l zy_Mod_laySerials zw_Mod_laySerials ({ frames := 1, cells := 0, slots := 0, locals := 23 }) (va_Pc [.ref h_a, .int x0] (fun U => U.heap.size = sz ∧ va_P (dC, dI) zCl [(h_a, .inr (4, [.int a_thrown, .int a_count, .ref h_a_names, .ref h_a_lengths, .ref h_a_serials, .ref h_a_targets, .int a_latest, .long a_hand, .int a_handLength, .int a_foundSerial, .int a_rows, .ref h_a_rowBytes, .ref h_a_rowLengths, .int a_places, .ref h_a_placeBytes, .ref h_a_placeLengths, .int a_off, .int a_left, .int a_made])), (h_a_serials, .inl (cI, 24, .inl a_serials)), (h_a_rowBytes, .inl (cL, 25, .inr (.inl a_rowBytes))), (h_a_rowLengths, .inl (cI, 25, .inl a_rowLengths))] U.heap ∧ va_K (dC, dI) zCl [(cL, .long), (cI, .int)] U ∧ va_D (fun _ => True) [(h_a, .inr (4, [.int a_thrown, .int a_count, .ref h_a_names, .ref h_a_lengths, .ref h_a_serials, .ref h_a_targets, .int a_latest, .long a_hand, .int a_handLength, .int a_foundSerial, .int a_rows, .ref h_a_rowBytes, .ref h_a_rowLengths, .int a_places, .ref h_a_placeBytes, .ref h_a_placeLengths, .int a_off, .int a_left, .int a_made])), (h_a_serials, .inl (cI, 24, .inl a_serials)), (h_a_rowBytes, .inl (cL, 25, .inr (.inl a_rowBytes))), (h_a_rowLengths, .inl (cI, 25, .inl a_rowLengths))])) (va_Qv (fun _ : Unit => True) (fun _ t => va_P (dC, dI) zCl [(h_a, .inr (4, [.int a_thrown, .int a_count, .ref h_a_names, .ref h_a_lengths, .ref h_a_serials, .ref h_a_targets, .int a_latest, .long a_hand, .int a_handLength, .int a_foundSerial, .int u.1, .ref h_a_rowBytes, .ref h_a_rowLengths, .int a_places, .ref h_a_placeBytes, .ref h_a_placeLengths, .int a_off, .int a_left, .int a_made])), (h_a_serials, .inl (cI, 24, .inl a_serials)), (h_a_rowBytes, .inl (cL, 25, .inr (.inl u.2.1))), (h_a_rowLengths, .inl (cI, 25, .inl u.2.2))] t.heap ∧ va_D (va_A [(h_a, .inr (4, [.int a_thrown, .int a_count, .ref h_a_names, .ref h_a_lengths, .ref h_a_serials, .ref h_a_targets, .int a_latest, .long a_hand, .int a_handLength, .int a_foundSerial, .int a_rows, .ref h_a_rowBytes, .ref h_a_rowLengths, .int a_places, .ref h_a_placeBytes, .ref h_a_placeLengths, .int a_off, .int a_left, .int a_made])), (h_a_serials, .inl (cI, 24, .inl a_serials)), (h_a_rowBytes, .inl (cL, 25, .inr (.inl a_rowBytes))), (h_a_rowLengths, .inl (cI, 25, .inl a_rowLengths))] sz) [(h_a, .inr (4, [.int a_thrown, .int a_count, .ref h_a_names, .ref h_a_lengths, .ref h_a_serials, .ref h_a_targets, .int a_latest, .long a_hand, .int a_handLength, .int a_foundSerial, .int u.1, .ref h_a_rowBytes, .ref h_a_rowLengths, .int a_places, .ref h_a_placeBytes, .ref h_a_placeLengths, .int a_off, .int a_left, .int a_made])), (h_a_serials, .inl (cI, 24, .inl a_serials)), (h_a_rowBytes, .inl (cL, 25, .inr (.inl u.2.1))), (h_a_rowLengths, .inl (cI, 25, .inl u.2.2))]) (va_A [(h_a, .inr (4, [.int a_thrown, .int a_count, .ref h_a_names, .ref h_a_lengths, .ref h_a_serials, .ref h_a_targets, .int a_latest, .long a_hand, .int a_handLength, .int a_foundSerial, .int a_rows, .ref h_a_rowBytes, .ref h_a_rowLengths, .int a_places, .ref h_a_placeBytes, .ref h_a_placeLengths, .int a_off, .int a_left, .int a_made])), (h_a_serials, .inl (cI, 24, .inl a_serials)), (h_a_rowBytes, .inl (cL, 25, .inr (.inl a_rowBytes))), (h_a_rowLengths, .inl (cI, 25, .inl a_rowLengths))] sz)) 0 0 (va_A [(h_a, .inr (4, [.int a_thrown, .int a_count, .ref h_a_names, .ref h_a_lengths, .ref h_a_serials, .ref h_a_targets, .int a_latest, .long a_hand, .int a_handLength, .int a_foundSerial, .int a_rows, .ref h_a_rowBytes, .ref h_a_rowLengths, .int a_places, .ref h_a_placeBytes, .ref h_a_placeLengths, .int a_off, .int a_left, .int a_made])), (h_a_serials, .inl (cI, 24, .inl a_serials)), (h_a_rowBytes, .inl (cL, 25, .inr (.inl a_rowBytes))), (h_a_rowLengths, .inl (cI, 25, .inl a_rowLengths))] sz) := by
  refine Met.ofW (cc := zc_Mod_laySerials) (maxL := 3) (ret := none) (by decide) rfl ?_
  intro p e s m args below meth c s₁ B hml hv
  obtain ⟨rfl, hsz, hP, hK, hD0⟩ := hv
  have hx := B.exec
  have hb := B.bytes
  have hr := B.returns
  have hts0 := atoms_spec (ws := zw_Mod_laySerials) B.pre
  have hts : ∀ w ∈ WSg, w.before _ s = true := fun w h => hts0 w (List.mem_cons_of_mem _ h)
  clear hts0
  have hown : s.vm.findClass zR_Mod = some m.cls := findClass_of_methodNamed B.named
  have hlocks := B.notSynchronized
  subst hsz
  have hD := hD0.self (sz := s.heap.size)
  generalize hAe : va_A [(h_a, .inr (4, [.int a_thrown, .int a_count, .ref h_a_names, .ref h_a_lengths, .ref h_a_serials, .ref h_a_targets, .int a_latest, .long a_hand, .int a_handLength, .int a_foundSerial, .int a_rows, .ref h_a_rowBytes, .ref h_a_rowLengths, .int a_places, .ref h_a_placeBytes, .ref h_a_placeLengths, .int a_off, .int a_left, .int a_made])), (h_a_serials, .inl (cI, 24, .inl a_serials)), (h_a_rowBytes, .inl (cL, 25, .inr (.inl a_rowBytes))), (h_a_rowLengths, .inl (cI, 25, .inl a_rowLengths))] s.heap.size = A at hD ⊢
  have hA : ∀ q : Nat, s.heap.size ≤ q → A q := fun q h => by rw [← hAe]; exact Or.inr h
  have hS : va_S A s.heap s.heap [] := va_S.rf
  have hP : va_P (dC, dI) zCl [(h_a, .inr (4, [.int a_thrown, .int a_count, .ref h_a_names, .ref h_a_lengths, .ref h_a_serials, .ref h_a_targets, .int a_latest, .long a_hand, .int a_handLength, .int a_foundSerial, .int a_rows, .ref h_a_rowBytes, .ref h_a_rowLengths, .int a_places, .ref h_a_placeBytes, .ref h_a_placeLengths, .int a_off, .int a_left, .int a_made])), (h_a_serials, .inl (cI, 24, .inl a_serials)), (h_a_rowBytes, .inl (cL, 25, .inr (.inl a_rowBytes))), (h_a_rowLengths, .inl (cI, 25, .inl a_rowLengths))] s.heap := hP
  have hl := lv_entry ([.ref h_a, .int x0]) (n := 3) (Nat.le_of_ble_eq_true rfl)
  rw [lg_entry_eq]
  generalize (lg_sl ([.ref h_a, .int x0]) ++ List.replicate (3 - (lg_sl ([.ref h_a, .int x0])).length) Slot.unset).toArray = ls at hl ⊢
  have hl : lv_has ls 3 [(0, .ref h_a), (1, .int x0)] := hl
  have KR : ∀ (pc : Nat) (ls : Array Slot) (H : Heap) (locs : List Loc), decode zc_Mod_laySerials pc = .ok (.return_, 1) → va_P (dC, dI) zCl [(h_a, .inr (4, [.int a_thrown, .int a_count, .ref h_a_names, .ref h_a_lengths, .ref h_a_serials, .ref h_a_targets, .int a_latest, .long a_hand, .int a_handLength, .int a_foundSerial, .int u.1, .ref h_a_rowBytes, .ref h_a_rowLengths, .int a_places, .ref h_a_placeBytes, .ref h_a_placeLengths, .int a_off, .int a_left, .int a_made])), (h_a_serials, .inl (cI, 24, .inl a_serials)), (h_a_rowBytes, .inl (cL, 25, .inr (.inl u.2.1))), (h_a_rowLengths, .inl (cI, 25, .inl u.2.2))] H → va_D A [(h_a, .inr (4, [.int a_thrown, .int a_count, .ref h_a_names, .ref h_a_lengths, .ref h_a_serials, .ref h_a_targets, .int a_latest, .long a_hand, .int a_handLength, .int a_foundSerial, .int u.1, .ref h_a_rowBytes, .ref h_a_rowLengths, .int a_places, .ref h_a_placeBytes, .ref h_a_placeLengths, .int a_off, .int a_left, .int a_made])), (h_a_serials, .inl (cI, 24, .inl a_serials)), (h_a_rowBytes, .inl (cL, 25, .inr (.inl u.2.1))), (h_a_rowLengths, .inl (cI, 25, .inl u.2.2))] → va_S A s.heap H locs → W p l e (headSpec zw_Mod_laySerials ({ frames := 1, cells := 0, slots := 0, locals := 23 })).room s m ([.ref h_a, .int x0] : List Value).toArray below meth c H locs 0 0 (MQ below (va_Qv (fun _ : Unit => True) (fun _ t => va_P (dC, dI) zCl [(h_a, .inr (4, [.int a_thrown, .int a_count, .ref h_a_names, .ref h_a_lengths, .ref h_a_serials, .ref h_a_targets, .int a_latest, .long a_hand, .int a_handLength, .int a_foundSerial, .int u.1, .ref h_a_rowBytes, .ref h_a_rowLengths, .int a_places, .ref h_a_placeBytes, .ref h_a_placeLengths, .int a_off, .int a_left, .int a_made])), (h_a_serials, .inl (cI, 24, .inl a_serials)), (h_a_rowBytes, .inl (cL, 25, .inr (.inl u.2.1))), (h_a_rowLengths, .inl (cI, 25, .inl u.2.2))] t.heap ∧ va_D A [(h_a, .inr (4, [.int a_thrown, .int a_count, .ref h_a_names, .ref h_a_lengths, .ref h_a_serials, .ref h_a_targets, .int a_latest, .long a_hand, .int a_handLength, .int a_foundSerial, .int u.1, .ref h_a_rowBytes, .ref h_a_rowLengths, .int a_places, .ref h_a_placeBytes, .ref h_a_placeLengths, .int a_off, .int a_left, .int a_made])), (h_a_serials, .inl (cI, 24, .inl a_serials)), (h_a_rowBytes, .inl (cL, 25, .inr (.inl u.2.1))), (h_a_rowLengths, .inl (cI, 25, .inl u.2.2))]) A) ([.ref h_a, .int x0] : List Value).toArray s 0 0 A) (F0 m pc ls []) := by
    intro pc ls H locs hd hP9 hD9 hS
    exact W.vret hx hb hr (fun t ht hW => ⟨⟨(), rfl, trivial, by rw [ht]; exact hP9, hD9⟩, hS.F ht⟩) hS.2.2 hd
  generalize (MQ below (va_Qv (fun _ : Unit => True) (fun _ t => va_P (dC, dI) zCl [(h_a, .inr (4, [.int a_thrown, .int a_count, .ref h_a_names, .ref h_a_lengths, .ref h_a_serials, .ref h_a_targets, .int a_latest, .long a_hand, .int a_handLength, .int a_foundSerial, .int u.1, .ref h_a_rowBytes, .ref h_a_rowLengths, .int a_places, .ref h_a_placeBytes, .ref h_a_placeLengths, .int a_off, .int a_left, .int a_made])), (h_a_serials, .inl (cI, 24, .inl a_serials)), (h_a_rowBytes, .inl (cL, 25, .inr (.inl u.2.1))), (h_a_rowLengths, .inl (cI, 25, .inl u.2.2))] t.heap ∧ va_D A [(h_a, .inr (4, [.int a_thrown, .int a_count, .ref h_a_names, .ref h_a_lengths, .ref h_a_serials, .ref h_a_targets, .int a_latest, .long a_hand, .int a_handLength, .int a_foundSerial, .int u.1, .ref h_a_rowBytes, .ref h_a_rowLengths, .int a_places, .ref h_a_placeBytes, .ref h_a_placeLengths, .int a_off, .int a_left, .int a_made])), (h_a_serials, .inl (cI, 24, .inl a_serials)), (h_a_rowBytes, .inl (cL, 25, .inr (.inl u.2.1))), (h_a_rowLengths, .inl (cI, 25, .inl u.2.2))]) A) ([.ref h_a, .int x0] : List Value).toArray s 0 0 A) = Q at KR ⊢
  have L7 : ∀ (n : Nat) (l1 : Int32) (l2 : Int32) (a_names : Nat → Int64) (a_lengths : Nat → Int32) (a_serials : Nat → Int32) (a_targets : Nat → Int32) (a_rowBytes : Nat → Int64) (a_rowLengths : Nat → Int32) (a_placeBytes : Nat → Int64) (a_placeLengths : Nat → Int32) (a_thrown : Int32) (a_count : Int32) (a_latest : Int32) (a_hand : Int64) (a_handLength : Int32) (a_foundSerial : Int32) (a_rows : Int32) (a_places : Int32) (a_off : Int32) (a_left : Int32) (a_made : Int32) (ls : Array Slot) (H : Heap) (locs : List Loc) (uu : (Int32 × (Nat → Int64) × (Nat → Int32) × Int32)), lv_has ls 3 [(0, .ref h_a), (1, .int l1), (2, .int l2)] → va_P (dC, dI) zCl [(h_a, .inr (4, [.int a_thrown, .int a_count, .ref h_a_names, .ref h_a_lengths, .ref h_a_serials, .ref h_a_targets, .int a_latest, .long a_hand, .int a_handLength, .int a_foundSerial, .int a_rows, .ref h_a_rowBytes, .ref h_a_rowLengths, .int a_places, .ref h_a_placeBytes, .ref h_a_placeLengths, .int a_off, .int a_left, .int a_made])), (h_a_serials, .inl (cI, 24, .inl a_serials)), (h_a_rowBytes, .inl (cL, 25, .inr (.inl a_rowBytes))), (h_a_rowLengths, .inl (cI, 25, .inl a_rowLengths))] H → va_D A [(h_a, .inr (4, [.int a_thrown, .int a_count, .ref h_a_names, .ref h_a_lengths, .ref h_a_serials, .ref h_a_targets, .int a_latest, .long a_hand, .int a_handLength, .int a_foundSerial, .int a_rows, .ref h_a_rowBytes, .ref h_a_rowLengths, .int a_places, .ref h_a_placeBytes, .ref h_a_placeLengths, .int a_off, .int a_left, .int a_made])), (h_a_serials, .inl (cI, 24, .inl a_serials)), (h_a_rowBytes, .inl (cL, 25, .inr (.inl a_rowBytes))), (h_a_rowLengths, .inl (cI, 25, .inl a_rowLengths))] → va_S A s.heap H locs → m_M_laySerials_l7 l1 a_serials a_count n l2 a_rowBytes a_rowLengths a_rows = some uu → (∀ (ls : Array Slot) (H : Heap) (locs : List Loc), lv_has ls 3 [(0, .ref h_a), (1, .int l1), (2, .int uu.1)] → va_P (dC, dI) zCl [(h_a, .inr (4, [.int a_thrown, .int a_count, .ref h_a_names, .ref h_a_lengths, .ref h_a_serials, .ref h_a_targets, .int a_latest, .long a_hand, .int a_handLength, .int a_foundSerial, .int uu.2.2.2, .ref h_a_rowBytes, .ref h_a_rowLengths, .int a_places, .ref h_a_placeBytes, .ref h_a_placeLengths, .int a_off, .int a_left, .int a_made])), (h_a_serials, .inl (cI, 24, .inl a_serials)), (h_a_rowBytes, .inl (cL, 25, .inr (.inl uu.2.1))), (h_a_rowLengths, .inl (cI, 25, .inl uu.2.2.1))] H → va_D A [(h_a, .inr (4, [.int a_thrown, .int a_count, .ref h_a_names, .ref h_a_lengths, .ref h_a_serials, .ref h_a_targets, .int a_latest, .long a_hand, .int a_handLength, .int a_foundSerial, .int uu.2.2.2, .ref h_a_rowBytes, .ref h_a_rowLengths, .int a_places, .ref h_a_placeBytes, .ref h_a_placeLengths, .int a_off, .int a_left, .int a_made])), (h_a_serials, .inl (cI, 24, .inl a_serials)), (h_a_rowBytes, .inl (cL, 25, .inr (.inl uu.2.1))), (h_a_rowLengths, .inl (cI, 25, .inl uu.2.2.1))] → va_S A s.heap H locs → W p l e (headSpec zw_Mod_laySerials ({ frames := 1, cells := 0, slots := 0, locals := 23 })).room s m ([.ref h_a, .int x0] : List Value).toArray below meth c H locs 0 0 Q (F0 m 40 ls [])) → W p l e (headSpec zw_Mod_laySerials ({ frames := 1, cells := 0, slots := 0, locals := 23 })).room s m ([.ref h_a, .int x0] : List Value).toArray below meth c H locs 0 0 Q (F0 m 7 ls []) := by
    intro n
    induction n with
    | zero =>
      intro l1 l2 a_names a_lengths a_serials a_targets a_rowBytes a_rowLengths a_placeBytes a_placeLengths a_thrown a_count a_latest a_hand a_handLength a_foundSerial a_rows a_places a_off a_left a_made ls H locs uu hl hP hD hS hm K
      rw [m_M_laySerials_l7] at hm
      cases hm
    | succ n ih =>
      intro l1 l2 a_names a_lengths a_serials a_targets a_rowBytes a_rowLengths a_placeBytes a_placeLengths a_thrown a_count a_latest a_hand a_handLength a_foundSerial a_rows a_places a_off a_left a_made ls H locs uu hl hP hD hS hm K
      rw [m_M_laySerials_l7] at hm
      refine lv_iload_n hx hb zd_Mod_laySerials_7 rfl (lv_at hl 2 rfl) ?_
      refine lv_aload_n hx hb zd_Mod_laySerials_8 rfl (lv_at hl 0 rfl) ?_
      refine va_get (D := (dC, dI)) (ci := 4) (v := .int a_count) (C := zR_Mod) (T := zT_Mod) (N := 19) hx hb hts zu_Mod hown hK hP 0 rfl rfl 1 (by decide) (hts _ wk408) (fun _ h9 => h9) rfl zd_Mod_laySerials_9 ?_
      refine lv_icmp_ge (tgt := 40) hx hb zd_Mod_laySerials_12 (by decide) (fun hc => ?_) (fun hc => ?_)
      · rw [if_pos hc] at hm
        obtain rfl := Option.some.inj hm
        exact K ls H locs (lv_sub hl [0, 1, 2] rfl) hP hD hS
      · rw [if_neg hc] at hm
        refine lv_iload_n hx hb zd_Mod_laySerials_15 rfl (lv_at hl 2 rfl) ?_
        refine lv_iload_n hx hb zd_Mod_laySerials_16 rfl (lv_at hl 1 rfl) ?_
        refine lv_icmp_eq (tgt := 34) hx hb zd_Mod_laySerials_17 (by decide) (fun hc => ?_) (fun hc => ?_)
        · rw [if_pos hc] at hm
          refine lv_iinc (k := 2) (v := (l2 + 1)) (lv' := [(2, .int ((l2 + 1))), (0, .ref h_a), (1, .int l1)]) hx hb zd_Mod_laySerials_34 hl rfl rfl (by decide) rfl (fun ls hl => ?_)
          refine lv_goto (tgt := 7) hx hb zd_Mod_laySerials_37 (by decide) ?_
          exact ih l1 ((l2 + 1)) a_names a_lengths a_serials a_targets a_rowBytes a_rowLengths a_placeBytes a_placeLengths a_thrown a_count a_latest a_hand a_handLength a_foundSerial a_rows a_places a_off a_left a_made ls H locs uu (lv_sub hl [1, 2, 0] rfl) hP hD hS hm K
        · rw [if_neg hc] at hm
          refine lv_aload_n hx hb zd_Mod_laySerials_20 rfl (lv_at hl 0 rfl) ?_
          refine lv_aload_n hx hb zd_Mod_laySerials_21 rfl (lv_at hl 0 rfl) ?_
          refine va_get (D := (dC, dI)) (ci := 4) (v := .ref h_a_serials) (C := zR_Mod) (T := zT_Mod) (N := 19) hx hb hts zu_Mod hown hK hP 0 rfl rfl 4 (by decide) (hts _ wk398) (fun _ h9 => h9) rfl zd_Mod_laySerials_22 ?_
          refine lv_iload_n hx hb zd_Mod_laySerials_25 rfl (lv_at hl 2 rfl) ?_
          by_cases hi : l2 < 0 ∨ 24 ≤ l2.toNatClampNeg
          · rw [if_pos hi] at hm; cases hm
          rw [if_neg hi] at hm
          refine va_iald hx hb hK hP 1 1 rfl rfl hi zd_Mod_laySerials_26 ?_
          obtain ⟨u1, hu1, hm⟩ := Option.bind_eq_some_iff.mp hm
          have hPc := hP.sub (ws' := []) [] rfl
          have hDc := hD.sub (ws' := []) [] (by decide) rfl
          have hFc := va_free (wc := []) hD hS hA [] rfl
          refine va_calll (va_runS (As := [.int ((a_serials l2.toNatClampNeg))]) (rest := [.ref h_a]) ⟨hx, hb, hml, hown, hts⟩ (c_M_rowOf l dC dI cL cI H.size ((a_serials l2.toNatClampNeg)) u1 hu1) (va_cwS 1 hts (zgS wk439 wk440 wk298 wk433) rfl rfl rfl zh_Mod_rowOf.2 ⟨Nat.le_of_ble_eq_true rfl, Nat.le_of_ble_eq_true rfl⟩) ⟨fun a U g mk q => by obtain ⟨q0, q1, qP, qK, qD⟩ := q; exact ⟨q0, q1, qP, va_K.moved (u := U) (U := U.calling g mk a) (Vm.Alike.refl U.vm) qK, qD⟩, fun U hU hW => ⟨rfl, by rw [hU], by rw [hU]; exact hPc, va_K.moved hW.alike hK, hDc.weaken (fun _ _ _ _ => trivial)⟩⟩ rfl rfl hl.1 rfl (lv_room (Nat.le_of_ble_eq_true rfl)) zd_Mod_laySerials_27 ⟨Nat.le_of_ble_eq_true rfl, Nat.le_of_ble_eq_true rfl⟩) hS (fun q _ h => hFc q h) hFc (fun r1 _ t H1 locs ht hvm hw hB hz1 hk1 hS => ?_)
          subst hw
          obtain ⟨hP1, hD1⟩ := hB
          rw [ht] at hP1
          obtain ⟨hP, hD⟩ := va_join (wr := [(h_a, .inr (4, [.int a_thrown, .int a_count, .ref h_a_names, .ref h_a_lengths, .ref h_a_serials, .ref h_a_targets, .int a_latest, .long a_hand, .int a_handLength, .int a_foundSerial, .int a_rows, .ref h_a_rowBytes, .ref h_a_rowLengths, .int a_places, .ref h_a_placeBytes, .ref h_a_placeLengths, .int a_off, .int a_left, .int a_made])), (h_a_serials, .inl (cI, 24, .inl a_serials)), (h_a_rowBytes, .inl (cL, 25, .inr (.inl a_rowBytes))), (h_a_rowLengths, .inl (cI, 25, .inl a_rowLengths))]) (w1 := []) hP hD [] [0, 1, 2, 3] rfl rfl (by decide) (by decide) hk1 hFc hP1 hD1
          generalize H1 = H at hP hS ⊢
          have hP : va_P (dC, dI) zCl [(h_a, .inr (4, [.int a_thrown, .int a_count, .ref h_a_names, .ref h_a_lengths, .ref h_a_serials, .ref h_a_targets, .int a_latest, .long a_hand, .int a_handLength, .int a_foundSerial, .int a_rows, .ref h_a_rowBytes, .ref h_a_rowLengths, .int a_places, .ref h_a_placeBytes, .ref h_a_placeLengths, .int a_off, .int a_left, .int a_made])), (h_a_serials, .inl (cI, 24, .inl a_serials)), (h_a_rowBytes, .inl (cL, 25, .inr (.inl a_rowBytes))), (h_a_rowLengths, .inl (cI, 25, .inl a_rowLengths))] H := hP.sub [0, 1, 2, 3] rfl
          have hD : va_D A [(h_a, .inr (4, [.int a_thrown, .int a_count, .ref h_a_names, .ref h_a_lengths, .ref h_a_serials, .ref h_a_targets, .int a_latest, .long a_hand, .int a_handLength, .int a_foundSerial, .int a_rows, .ref h_a_rowBytes, .ref h_a_rowLengths, .int a_places, .ref h_a_placeBytes, .ref h_a_placeLengths, .int a_off, .int a_left, .int a_made])), (h_a_serials, .inl (cI, 24, .inl a_serials)), (h_a_rowBytes, .inl (cL, 25, .inr (.inl a_rowBytes))), (h_a_rowLengths, .inl (cI, 25, .inl a_rowLengths))] := hD.sub [0, 1, 2, 3] (by decide) rfl
          refine lv_iconst (v := 2) hx hb zd_Mod_laySerials_30 (by decide) ?_
          obtain ⟨u2, hu2, hm⟩ := Option.bind_eq_some_iff.mp hm
          have hPc := hP.sub (ws' := [(h_a, .inr (4, [.int a_thrown, .int a_count, .ref h_a_names, .ref h_a_lengths, .ref h_a_serials, .ref h_a_targets, .int a_latest, .long a_hand, .int a_handLength, .int a_foundSerial, .int a_rows, .ref h_a_rowBytes, .ref h_a_rowLengths, .int a_places, .ref h_a_placeBytes, .ref h_a_placeLengths, .int a_off, .int a_left, .int a_made])), (h_a_rowBytes, .inl (cL, 25, .inr (.inl a_rowBytes))), (h_a_rowLengths, .inl (cI, 25, .inl a_rowLengths))]) [0, 2, 3] rfl
          have hDc := hD.sub (ws' := [(h_a, .inr (4, [.int a_thrown, .int a_count, .ref h_a_names, .ref h_a_lengths, .ref h_a_serials, .ref h_a_targets, .int a_latest, .long a_hand, .int a_handLength, .int a_foundSerial, .int a_rows, .ref h_a_rowBytes, .ref h_a_rowLengths, .int a_places, .ref h_a_placeBytes, .ref h_a_placeLengths, .int a_off, .int a_left, .int a_made])), (h_a_rowBytes, .inl (cL, 25, .inr (.inl a_rowBytes))), (h_a_rowLengths, .inl (cI, 25, .inl a_rowLengths))]) [0, 2, 3] (by decide) rfl
          have hFc := va_free (wc := [(h_a, .inr (4, [.int a_thrown, .int a_count, .ref h_a_names, .ref h_a_lengths, .ref h_a_serials, .ref h_a_targets, .int a_latest, .long a_hand, .int a_handLength, .int a_foundSerial, .int a_rows, .ref h_a_rowBytes, .ref h_a_rowLengths, .int a_places, .ref h_a_placeBytes, .ref h_a_placeLengths, .int a_off, .int a_left, .int a_made])), (h_a_rowBytes, .inl (cL, 25, .inr (.inl a_rowBytes))), (h_a_rowLengths, .inl (cI, 25, .inl a_rowLengths))]) hD hS hA [0, 2, 3] rfl
          refine va_callv (va_runV (As := [.long u1, .int 2]) (rest := []) ⟨hx, hb, hml, hown, hts⟩ (c_M_row l dC dI cL cI h_a h_a_names h_a_lengths h_a_serials h_a_targets h_a_rowBytes h_a_rowLengths h_a_placeBytes h_a_placeLengths H.size u1 2 a_thrown a_count a_names a_lengths a_serials a_targets a_latest a_hand a_handLength a_foundSerial a_rows a_rowBytes a_rowLengths a_places a_placeBytes a_placeLengths a_off a_left a_made u2 hu2) (cwV 2 hts (zgV wk435 wk436 wk437 wk298 wk422) rfl rfl rfl zh_Mod_row ⟨Nat.le_of_ble_eq_true rfl, Nat.le_of_ble_eq_true rfl⟩) ⟨fun a U g mk q => by obtain ⟨q0, q1, qP, qK, qD⟩ := q; exact ⟨q0, q1, qP, va_K.moved (u := U) (U := U.calling g mk a) (Vm.Alike.refl U.vm) qK, qD⟩, va_recv hK hP (ci := 4) (q0 := 0) rfl rfl, fun U hU hW => ⟨rfl, by rw [hU], by rw [hU]; exact hPc, va_K.moved hW.alike hK, hDc.weaken (fun _ _ _ _ => trivial)⟩⟩ rfl rfl hl.1 rfl (lv_room (Nat.le_of_ble_eq_true rfl)) zd_Mod_laySerials_31 ⟨Nat.le_of_ble_eq_true rfl, Nat.le_of_ble_eq_true rfl⟩) hS (fun q _ h => hFc q h) hFc (fun _ t H1 locs ht hvm hw hB hz1 hk1 hS => ?_)
          obtain ⟨hP1, hD1⟩ := hB
          rw [ht] at hP1
          obtain ⟨hP, hD⟩ := va_join (wr := [(h_a_serials, .inl (cI, 24, .inl a_serials))]) (w1 := [(h_a, .inr (4, [.int a_thrown, .int a_count, .ref h_a_names, .ref h_a_lengths, .ref h_a_serials, .ref h_a_targets, .int a_latest, .long a_hand, .int a_handLength, .int a_foundSerial, .int u2.1, .ref h_a_rowBytes, .ref h_a_rowLengths, .int a_places, .ref h_a_placeBytes, .ref h_a_placeLengths, .int a_off, .int a_left, .int a_made])), (h_a_rowBytes, .inl (cL, 25, .inr (.inl u2.2.1))), (h_a_rowLengths, .inl (cI, 25, .inl u2.2.2))]) hP hD [0, 2, 3] [1] rfl rfl (by decide) (by decide) hk1 hFc hP1 hD1
          generalize H1 = H at hP hS ⊢
          have hP : va_P (dC, dI) zCl [(h_a, .inr (4, [.int a_thrown, .int a_count, .ref h_a_names, .ref h_a_lengths, .ref h_a_serials, .ref h_a_targets, .int a_latest, .long a_hand, .int a_handLength, .int a_foundSerial, .int u2.1, .ref h_a_rowBytes, .ref h_a_rowLengths, .int a_places, .ref h_a_placeBytes, .ref h_a_placeLengths, .int a_off, .int a_left, .int a_made])), (h_a_serials, .inl (cI, 24, .inl a_serials)), (h_a_rowBytes, .inl (cL, 25, .inr (.inl u2.2.1))), (h_a_rowLengths, .inl (cI, 25, .inl u2.2.2))] H := hP.sub [1, 0, 2, 3] rfl
          have hD : va_D A [(h_a, .inr (4, [.int a_thrown, .int a_count, .ref h_a_names, .ref h_a_lengths, .ref h_a_serials, .ref h_a_targets, .int a_latest, .long a_hand, .int a_handLength, .int a_foundSerial, .int u2.1, .ref h_a_rowBytes, .ref h_a_rowLengths, .int a_places, .ref h_a_placeBytes, .ref h_a_placeLengths, .int a_off, .int a_left, .int a_made])), (h_a_serials, .inl (cI, 24, .inl a_serials)), (h_a_rowBytes, .inl (cL, 25, .inr (.inl u2.2.1))), (h_a_rowLengths, .inl (cI, 25, .inl u2.2.2))] := hD.sub [1, 0, 2, 3] (by decide) rfl
          refine lv_iinc (k := 2) (v := (l2 + 1)) (lv' := [(2, .int ((l2 + 1))), (0, .ref h_a), (1, .int l1)]) hx hb zd_Mod_laySerials_34 hl rfl rfl (by decide) rfl (fun ls hl => ?_)
          refine lv_goto (tgt := 7) hx hb zd_Mod_laySerials_37 (by decide) ?_
          exact ih l1 ((l2 + 1)) a_names a_lengths a_serials a_targets u2.2.1 u2.2.2 a_placeBytes a_placeLengths a_thrown a_count a_latest a_hand a_handLength a_foundSerial u2.1 a_places a_off a_left a_made ls H locs uu (lv_sub hl [1, 2, 0] rfl) hP hD hS hm K
  unfold m_M_laySerials at hm
  refine lv_aload_n hx hb zd_Mod_laySerials_0 rfl (lv_at hl 0 rfl) ?_
  refine lv_iconst (v := 0) hx hb zd_Mod_laySerials_1 (by decide) ?_
  refine va_put (D := (dC, dI)) (ci := 4) (v := .int 0) (ty := .int) (C := zR_Mod) (T := zT_Mod) (N := 19) hx hb hts zu_Mod zt_Mod zt_Mod_ok zn_Mod hown hK hP hD hS 0 rfl rfl 10 (by decide) (hts _ wk423) (fun _ h9 => h9) rfl (by decide +kernel) rfl rfl (Nat.le_of_ble_eq_true rfl) zd_Mod_laySerials_2 (fun H locs hP hD hS => ?_)
  have hP : va_P (dC, dI) zCl [(h_a, .inr (4, [.int a_thrown, .int a_count, .ref h_a_names, .ref h_a_lengths, .ref h_a_serials, .ref h_a_targets, .int a_latest, .long a_hand, .int a_handLength, .int a_foundSerial, .int 0, .ref h_a_rowBytes, .ref h_a_rowLengths, .int a_places, .ref h_a_placeBytes, .ref h_a_placeLengths, .int a_off, .int a_left, .int a_made])), (h_a_serials, .inl (cI, 24, .inl a_serials)), (h_a_rowBytes, .inl (cL, 25, .inr (.inl a_rowBytes))), (h_a_rowLengths, .inl (cI, 25, .inl a_rowLengths))] H := hP
  have hD : va_D A [(h_a, .inr (4, [.int a_thrown, .int a_count, .ref h_a_names, .ref h_a_lengths, .ref h_a_serials, .ref h_a_targets, .int a_latest, .long a_hand, .int a_handLength, .int a_foundSerial, .int 0, .ref h_a_rowBytes, .ref h_a_rowLengths, .int a_places, .ref h_a_placeBytes, .ref h_a_placeLengths, .int a_off, .int a_left, .int a_made])), (h_a_serials, .inl (cI, 24, .inl a_serials)), (h_a_rowBytes, .inl (cL, 25, .inr (.inl a_rowBytes))), (h_a_rowLengths, .inl (cI, 25, .inl a_rowLengths))] := hD
  refine lv_iconst (v := 0) hx hb zd_Mod_laySerials_5 (by decide) ?_
  refine lv_istore_n (lv' := [(2, .int 0), (0, .ref h_a), (1, .int x0)]) hx hb zd_Mod_laySerials_6 rfl hl (by decide) rfl (fun ls hl => ?_)
  obtain ⟨u3, hu3, hm⟩ := Option.bind_eq_some_iff.mp hm
  refine L7 100 x0 0 a_names a_lengths a_serials a_targets a_rowBytes a_rowLengths a_placeBytes a_placeLengths a_thrown a_count a_latest a_hand a_handLength a_foundSerial 0 a_places a_off a_left a_made ls _ _ u3 (lv_sub hl [1, 2, 0] rfl) hP hD hS hu3 (fun ls H locs hl hP hD hS => ?_)
  obtain rfl := Option.some.inj hm
  exact KR 40 ls _ _ zd_Mod_laySerials_40 hP hD hS
set_option maxHeartbeats 4000000 in
set_option maxRecDepth 100000 in
theorem c_M_freePages (l : Launch) (dC : Nat → ClassId) (dI : Nat → Nat → Nat) (cL cI : ClassId) (h_a h_a_names h_a_lengths h_a_serials h_a_targets h_a_rowBytes h_a_rowLengths h_a_placeBytes h_a_placeLengths : Nat) (sz : Nat) (a_thrown : Int32) (a_count : Int32) (a_names : Nat → Int64) (a_lengths : Nat → Int32) (a_serials : Nat → Int32) (a_targets : Nat → Int32) (a_latest : Int32) (a_hand : Int64) (a_handLength : Int32) (a_foundSerial : Int32) (a_rows : Int32) (a_rowBytes : Nat → Int64) (a_rowLengths : Nat → Int32) (a_places : Int32) (a_placeBytes : Nat → Int64) (a_placeLengths : Nat → Int32) (a_off : Int32) (a_left : Int32) (a_made : Int32) (u : Int32 × Int32 × (Nat → Int64) × (Nat → Int32) × Int32 × (Nat → Int64) × (Nat → Int32)) (hm : m_M_freePages a_count a_names a_lengths a_serials a_rowBytes a_rowLengths a_placeBytes a_placeLengths = some u) : Met l zy_Mod_freePages zw_Mod_freePages ({ frames := 2, cells := 0, slots := 0, locals := 49 }) (va_Pc [.ref h_a] (fun U => U.heap.size = sz ∧ va_P (dC, dI) zCl [(h_a, .inr (4, [.int a_thrown, .int a_count, .ref h_a_names, .ref h_a_lengths, .ref h_a_serials, .ref h_a_targets, .int a_latest, .long a_hand, .int a_handLength, .int a_foundSerial, .int a_rows, .ref h_a_rowBytes, .ref h_a_rowLengths, .int a_places, .ref h_a_placeBytes, .ref h_a_placeLengths, .int a_off, .int a_left, .int a_made])), (h_a_names, .inl (cL, 24, .inr (.inl a_names))), (h_a_lengths, .inl (cI, 24, .inl a_lengths)), (h_a_serials, .inl (cI, 24, .inl a_serials)), (h_a_rowBytes, .inl (cL, 25, .inr (.inl a_rowBytes))), (h_a_rowLengths, .inl (cI, 25, .inl a_rowLengths)), (h_a_placeBytes, .inl (cL, 64, .inr (.inl a_placeBytes))), (h_a_placeLengths, .inl (cI, 64, .inl a_placeLengths))] U.heap ∧ va_K (dC, dI) zCl [(cL, .long), (cI, .int)] U ∧ va_D (fun _ => True) [(h_a, .inr (4, [.int a_thrown, .int a_count, .ref h_a_names, .ref h_a_lengths, .ref h_a_serials, .ref h_a_targets, .int a_latest, .long a_hand, .int a_handLength, .int a_foundSerial, .int a_rows, .ref h_a_rowBytes, .ref h_a_rowLengths, .int a_places, .ref h_a_placeBytes, .ref h_a_placeLengths, .int a_off, .int a_left, .int a_made])), (h_a_names, .inl (cL, 24, .inr (.inl a_names))), (h_a_lengths, .inl (cI, 24, .inl a_lengths)), (h_a_serials, .inl (cI, 24, .inl a_serials)), (h_a_rowBytes, .inl (cL, 25, .inr (.inl a_rowBytes))), (h_a_rowLengths, .inl (cI, 25, .inl a_rowLengths)), (h_a_placeBytes, .inl (cL, 64, .inr (.inl a_placeBytes))), (h_a_placeLengths, .inl (cI, 64, .inl a_placeLengths))])) (va_Qi (fun (r : Int32) (_ : Unit) => u.1 = r) (fun _ t => va_P (dC, dI) zCl [(h_a, .inr (4, [.int a_thrown, .int a_count, .ref h_a_names, .ref h_a_lengths, .ref h_a_serials, .ref h_a_targets, .int a_latest, .long a_hand, .int a_handLength, .int a_foundSerial, .int u.2.1, .ref h_a_rowBytes, .ref h_a_rowLengths, .int u.2.2.2.2.1, .ref h_a_placeBytes, .ref h_a_placeLengths, .int a_off, .int a_left, .int a_made])), (h_a_names, .inl (cL, 24, .inr (.inl a_names))), (h_a_lengths, .inl (cI, 24, .inl a_lengths)), (h_a_serials, .inl (cI, 24, .inl a_serials)), (h_a_rowBytes, .inl (cL, 25, .inr (.inl u.2.2.1))), (h_a_rowLengths, .inl (cI, 25, .inl u.2.2.2.1)), (h_a_placeBytes, .inl (cL, 64, .inr (.inl u.2.2.2.2.2.1))), (h_a_placeLengths, .inl (cI, 64, .inl u.2.2.2.2.2.2))] t.heap ∧ va_D (va_A [(h_a, .inr (4, [.int a_thrown, .int a_count, .ref h_a_names, .ref h_a_lengths, .ref h_a_serials, .ref h_a_targets, .int a_latest, .long a_hand, .int a_handLength, .int a_foundSerial, .int a_rows, .ref h_a_rowBytes, .ref h_a_rowLengths, .int a_places, .ref h_a_placeBytes, .ref h_a_placeLengths, .int a_off, .int a_left, .int a_made])), (h_a_names, .inl (cL, 24, .inr (.inl a_names))), (h_a_lengths, .inl (cI, 24, .inl a_lengths)), (h_a_serials, .inl (cI, 24, .inl a_serials)), (h_a_rowBytes, .inl (cL, 25, .inr (.inl a_rowBytes))), (h_a_rowLengths, .inl (cI, 25, .inl a_rowLengths)), (h_a_placeBytes, .inl (cL, 64, .inr (.inl a_placeBytes))), (h_a_placeLengths, .inl (cI, 64, .inl a_placeLengths))] sz) [(h_a, .inr (4, [.int a_thrown, .int a_count, .ref h_a_names, .ref h_a_lengths, .ref h_a_serials, .ref h_a_targets, .int a_latest, .long a_hand, .int a_handLength, .int a_foundSerial, .int u.2.1, .ref h_a_rowBytes, .ref h_a_rowLengths, .int u.2.2.2.2.1, .ref h_a_placeBytes, .ref h_a_placeLengths, .int a_off, .int a_left, .int a_made])), (h_a_names, .inl (cL, 24, .inr (.inl a_names))), (h_a_lengths, .inl (cI, 24, .inl a_lengths)), (h_a_serials, .inl (cI, 24, .inl a_serials)), (h_a_rowBytes, .inl (cL, 25, .inr (.inl u.2.2.1))), (h_a_rowLengths, .inl (cI, 25, .inl u.2.2.2.1)), (h_a_placeBytes, .inl (cL, 64, .inr (.inl u.2.2.2.2.2.1))), (h_a_placeLengths, .inl (cI, 64, .inl u.2.2.2.2.2.2))]) (va_A [(h_a, .inr (4, [.int a_thrown, .int a_count, .ref h_a_names, .ref h_a_lengths, .ref h_a_serials, .ref h_a_targets, .int a_latest, .long a_hand, .int a_handLength, .int a_foundSerial, .int a_rows, .ref h_a_rowBytes, .ref h_a_rowLengths, .int a_places, .ref h_a_placeBytes, .ref h_a_placeLengths, .int a_off, .int a_left, .int a_made])), (h_a_names, .inl (cL, 24, .inr (.inl a_names))), (h_a_lengths, .inl (cI, 24, .inl a_lengths)), (h_a_serials, .inl (cI, 24, .inl a_serials)), (h_a_rowBytes, .inl (cL, 25, .inr (.inl a_rowBytes))), (h_a_rowLengths, .inl (cI, 25, .inl a_rowLengths)), (h_a_placeBytes, .inl (cL, 64, .inr (.inl a_placeBytes))), (h_a_placeLengths, .inl (cI, 64, .inl a_placeLengths))] sz)) 0 0 (va_A [(h_a, .inr (4, [.int a_thrown, .int a_count, .ref h_a_names, .ref h_a_lengths, .ref h_a_serials, .ref h_a_targets, .int a_latest, .long a_hand, .int a_handLength, .int a_foundSerial, .int a_rows, .ref h_a_rowBytes, .ref h_a_rowLengths, .int a_places, .ref h_a_placeBytes, .ref h_a_placeLengths, .int a_off, .int a_left, .int a_made])), (h_a_names, .inl (cL, 24, .inr (.inl a_names))), (h_a_lengths, .inl (cI, 24, .inl a_lengths)), (h_a_serials, .inl (cI, 24, .inl a_serials)), (h_a_rowBytes, .inl (cL, 25, .inr (.inl a_rowBytes))), (h_a_rowLengths, .inl (cI, 25, .inl a_rowLengths)), (h_a_placeBytes, .inl (cL, 64, .inr (.inl a_placeBytes))), (h_a_placeLengths, .inl (cI, 64, .inl a_placeLengths))] sz) := by
  refine Met.ofW (cc := zc_Mod_freePages) (maxL := 2) (ret := (some .int)) (by decide) rfl ?_
  intro p e s m args below meth c s₁ B hml hv
  obtain ⟨rfl, hsz, hP, hK, hD0⟩ := hv
  have hx := B.exec
  have hb := B.bytes
  have hr := B.returns
  have hts0 := atoms_spec (ws := zw_Mod_freePages) B.pre
  have hts : ∀ w ∈ WSg, w.before _ s = true := fun w h => hts0 w (List.mem_cons_of_mem _ h)
  clear hts0
  have hown : s.vm.findClass zR_Mod = some m.cls := findClass_of_methodNamed B.named
  have hlocks := B.notSynchronized
  subst hsz
  have hD := hD0.self (sz := s.heap.size)
  generalize hAe : va_A [(h_a, .inr (4, [.int a_thrown, .int a_count, .ref h_a_names, .ref h_a_lengths, .ref h_a_serials, .ref h_a_targets, .int a_latest, .long a_hand, .int a_handLength, .int a_foundSerial, .int a_rows, .ref h_a_rowBytes, .ref h_a_rowLengths, .int a_places, .ref h_a_placeBytes, .ref h_a_placeLengths, .int a_off, .int a_left, .int a_made])), (h_a_names, .inl (cL, 24, .inr (.inl a_names))), (h_a_lengths, .inl (cI, 24, .inl a_lengths)), (h_a_serials, .inl (cI, 24, .inl a_serials)), (h_a_rowBytes, .inl (cL, 25, .inr (.inl a_rowBytes))), (h_a_rowLengths, .inl (cI, 25, .inl a_rowLengths)), (h_a_placeBytes, .inl (cL, 64, .inr (.inl a_placeBytes))), (h_a_placeLengths, .inl (cI, 64, .inl a_placeLengths))] s.heap.size = A at hD ⊢
  have hA : ∀ q : Nat, s.heap.size ≤ q → A q := fun q h => by rw [← hAe]; exact Or.inr h
  have hS : va_S A s.heap s.heap [] := va_S.rf
  have hP : va_P (dC, dI) zCl [(h_a, .inr (4, [.int a_thrown, .int a_count, .ref h_a_names, .ref h_a_lengths, .ref h_a_serials, .ref h_a_targets, .int a_latest, .long a_hand, .int a_handLength, .int a_foundSerial, .int a_rows, .ref h_a_rowBytes, .ref h_a_rowLengths, .int a_places, .ref h_a_placeBytes, .ref h_a_placeLengths, .int a_off, .int a_left, .int a_made])), (h_a_names, .inl (cL, 24, .inr (.inl a_names))), (h_a_lengths, .inl (cI, 24, .inl a_lengths)), (h_a_serials, .inl (cI, 24, .inl a_serials)), (h_a_rowBytes, .inl (cL, 25, .inr (.inl a_rowBytes))), (h_a_rowLengths, .inl (cI, 25, .inl a_rowLengths)), (h_a_placeBytes, .inl (cL, 64, .inr (.inl a_placeBytes))), (h_a_placeLengths, .inl (cI, 64, .inl a_placeLengths))] s.heap := hP
  have hl := lv_entry ([.ref h_a]) (n := 2) (Nat.le_of_ble_eq_true rfl)
  rw [lg_entry_eq]
  generalize (lg_sl ([.ref h_a]) ++ List.replicate (2 - (lg_sl ([.ref h_a])).length) Slot.unset).toArray = ls at hl ⊢
  have hl : lv_has ls 2 [(0, .ref h_a)] := hl
  have KR : ∀ (pc : Nat) (ls : Array Slot) (H : Heap) (locs : List Loc), decode zc_Mod_freePages pc = .ok (.ireturn, 1) → va_P (dC, dI) zCl [(h_a, .inr (4, [.int a_thrown, .int a_count, .ref h_a_names, .ref h_a_lengths, .ref h_a_serials, .ref h_a_targets, .int a_latest, .long a_hand, .int a_handLength, .int a_foundSerial, .int u.2.1, .ref h_a_rowBytes, .ref h_a_rowLengths, .int u.2.2.2.2.1, .ref h_a_placeBytes, .ref h_a_placeLengths, .int a_off, .int a_left, .int a_made])), (h_a_names, .inl (cL, 24, .inr (.inl a_names))), (h_a_lengths, .inl (cI, 24, .inl a_lengths)), (h_a_serials, .inl (cI, 24, .inl a_serials)), (h_a_rowBytes, .inl (cL, 25, .inr (.inl u.2.2.1))), (h_a_rowLengths, .inl (cI, 25, .inl u.2.2.2.1)), (h_a_placeBytes, .inl (cL, 64, .inr (.inl u.2.2.2.2.2.1))), (h_a_placeLengths, .inl (cI, 64, .inl u.2.2.2.2.2.2))] H → va_D A [(h_a, .inr (4, [.int a_thrown, .int a_count, .ref h_a_names, .ref h_a_lengths, .ref h_a_serials, .ref h_a_targets, .int a_latest, .long a_hand, .int a_handLength, .int a_foundSerial, .int u.2.1, .ref h_a_rowBytes, .ref h_a_rowLengths, .int u.2.2.2.2.1, .ref h_a_placeBytes, .ref h_a_placeLengths, .int a_off, .int a_left, .int a_made])), (h_a_names, .inl (cL, 24, .inr (.inl a_names))), (h_a_lengths, .inl (cI, 24, .inl a_lengths)), (h_a_serials, .inl (cI, 24, .inl a_serials)), (h_a_rowBytes, .inl (cL, 25, .inr (.inl u.2.2.1))), (h_a_rowLengths, .inl (cI, 25, .inl u.2.2.2.1)), (h_a_placeBytes, .inl (cL, 64, .inr (.inl u.2.2.2.2.2.1))), (h_a_placeLengths, .inl (cI, 64, .inl u.2.2.2.2.2.2))] → va_S A s.heap H locs → W p l e (headSpec zw_Mod_freePages ({ frames := 2, cells := 0, slots := 0, locals := 49 })).room s m ([.ref h_a] : List Value).toArray below meth c H locs 0 0 (MQ below (va_Qi (fun (r : Int32) (_ : Unit) => u.1 = r) (fun _ t => va_P (dC, dI) zCl [(h_a, .inr (4, [.int a_thrown, .int a_count, .ref h_a_names, .ref h_a_lengths, .ref h_a_serials, .ref h_a_targets, .int a_latest, .long a_hand, .int a_handLength, .int a_foundSerial, .int u.2.1, .ref h_a_rowBytes, .ref h_a_rowLengths, .int u.2.2.2.2.1, .ref h_a_placeBytes, .ref h_a_placeLengths, .int a_off, .int a_left, .int a_made])), (h_a_names, .inl (cL, 24, .inr (.inl a_names))), (h_a_lengths, .inl (cI, 24, .inl a_lengths)), (h_a_serials, .inl (cI, 24, .inl a_serials)), (h_a_rowBytes, .inl (cL, 25, .inr (.inl u.2.2.1))), (h_a_rowLengths, .inl (cI, 25, .inl u.2.2.2.1)), (h_a_placeBytes, .inl (cL, 64, .inr (.inl u.2.2.2.2.2.1))), (h_a_placeLengths, .inl (cI, 64, .inl u.2.2.2.2.2.2))] t.heap ∧ va_D A [(h_a, .inr (4, [.int a_thrown, .int a_count, .ref h_a_names, .ref h_a_lengths, .ref h_a_serials, .ref h_a_targets, .int a_latest, .long a_hand, .int a_handLength, .int a_foundSerial, .int u.2.1, .ref h_a_rowBytes, .ref h_a_rowLengths, .int u.2.2.2.2.1, .ref h_a_placeBytes, .ref h_a_placeLengths, .int a_off, .int a_left, .int a_made])), (h_a_names, .inl (cL, 24, .inr (.inl a_names))), (h_a_lengths, .inl (cI, 24, .inl a_lengths)), (h_a_serials, .inl (cI, 24, .inl a_serials)), (h_a_rowBytes, .inl (cL, 25, .inr (.inl u.2.2.1))), (h_a_rowLengths, .inl (cI, 25, .inl u.2.2.2.1)), (h_a_placeBytes, .inl (cL, 64, .inr (.inl u.2.2.2.2.2.1))), (h_a_placeLengths, .inl (cI, 64, .inl u.2.2.2.2.2.2))]) A) ([.ref h_a] : List Value).toArray s 0 0 A) (F0 m pc ls [.int u.1]) := by
    intro pc ls H locs hd hP9 hD9 hS
    exact W.iret (v := u.1) hx hb hr (fun t ht hW => ⟨⟨u.1, (), rfl, rfl, by rw [ht]; exact hP9, hD9⟩, hS.F ht⟩) hS.2.2 hd
  generalize (MQ below (va_Qi (fun (r : Int32) (_ : Unit) => u.1 = r) (fun _ t => va_P (dC, dI) zCl [(h_a, .inr (4, [.int a_thrown, .int a_count, .ref h_a_names, .ref h_a_lengths, .ref h_a_serials, .ref h_a_targets, .int a_latest, .long a_hand, .int a_handLength, .int a_foundSerial, .int u.2.1, .ref h_a_rowBytes, .ref h_a_rowLengths, .int u.2.2.2.2.1, .ref h_a_placeBytes, .ref h_a_placeLengths, .int a_off, .int a_left, .int a_made])), (h_a_names, .inl (cL, 24, .inr (.inl a_names))), (h_a_lengths, .inl (cI, 24, .inl a_lengths)), (h_a_serials, .inl (cI, 24, .inl a_serials)), (h_a_rowBytes, .inl (cL, 25, .inr (.inl u.2.2.1))), (h_a_rowLengths, .inl (cI, 25, .inl u.2.2.2.1)), (h_a_placeBytes, .inl (cL, 64, .inr (.inl u.2.2.2.2.2.1))), (h_a_placeLengths, .inl (cI, 64, .inl u.2.2.2.2.2.2))] t.heap ∧ va_D A [(h_a, .inr (4, [.int a_thrown, .int a_count, .ref h_a_names, .ref h_a_lengths, .ref h_a_serials, .ref h_a_targets, .int a_latest, .long a_hand, .int a_handLength, .int a_foundSerial, .int u.2.1, .ref h_a_rowBytes, .ref h_a_rowLengths, .int u.2.2.2.2.1, .ref h_a_placeBytes, .ref h_a_placeLengths, .int a_off, .int a_left, .int a_made])), (h_a_names, .inl (cL, 24, .inr (.inl a_names))), (h_a_lengths, .inl (cI, 24, .inl a_lengths)), (h_a_serials, .inl (cI, 24, .inl a_serials)), (h_a_rowBytes, .inl (cL, 25, .inr (.inl u.2.2.1))), (h_a_rowLengths, .inl (cI, 25, .inl u.2.2.2.1)), (h_a_placeBytes, .inl (cL, 64, .inr (.inl u.2.2.2.2.2.1))), (h_a_placeLengths, .inl (cI, 64, .inl u.2.2.2.2.2.2))]) A) ([.ref h_a] : List Value).toArray s 0 0 A) = Q at KR ⊢
  unfold m_M_freePages at hm
  refine lv_aload_n hx hb zd_Mod_freePages_0 rfl (lv_at hl 0 rfl) ?_
  refine lv_iconst (v := (-1)) hx hb zd_Mod_freePages_1 (by decide) ?_
  obtain ⟨u1, hu1, hm⟩ := Option.bind_eq_some_iff.mp hm
  have hPc := hP.sub (ws' := [(h_a, .inr (4, [.int a_thrown, .int a_count, .ref h_a_names, .ref h_a_lengths, .ref h_a_serials, .ref h_a_targets, .int a_latest, .long a_hand, .int a_handLength, .int a_foundSerial, .int a_rows, .ref h_a_rowBytes, .ref h_a_rowLengths, .int a_places, .ref h_a_placeBytes, .ref h_a_placeLengths, .int a_off, .int a_left, .int a_made])), (h_a_names, .inl (cL, 24, .inr (.inl a_names))), (h_a_lengths, .inl (cI, 24, .inl a_lengths)), (h_a_rowBytes, .inl (cL, 25, .inr (.inl a_rowBytes))), (h_a_rowLengths, .inl (cI, 25, .inl a_rowLengths))]) [0, 1, 2, 4, 5] rfl
  have hDc := hD.sub (ws' := [(h_a, .inr (4, [.int a_thrown, .int a_count, .ref h_a_names, .ref h_a_lengths, .ref h_a_serials, .ref h_a_targets, .int a_latest, .long a_hand, .int a_handLength, .int a_foundSerial, .int a_rows, .ref h_a_rowBytes, .ref h_a_rowLengths, .int a_places, .ref h_a_placeBytes, .ref h_a_placeLengths, .int a_off, .int a_left, .int a_made])), (h_a_names, .inl (cL, 24, .inr (.inl a_names))), (h_a_lengths, .inl (cI, 24, .inl a_lengths)), (h_a_rowBytes, .inl (cL, 25, .inr (.inl a_rowBytes))), (h_a_rowLengths, .inl (cI, 25, .inl a_rowLengths))]) [0, 1, 2, 4, 5] (by decide) rfl
  have hFc := va_free (wc := [(h_a, .inr (4, [.int a_thrown, .int a_count, .ref h_a_names, .ref h_a_lengths, .ref h_a_serials, .ref h_a_targets, .int a_latest, .long a_hand, .int a_handLength, .int a_foundSerial, .int a_rows, .ref h_a_rowBytes, .ref h_a_rowLengths, .int a_places, .ref h_a_placeBytes, .ref h_a_placeLengths, .int a_off, .int a_left, .int a_made])), (h_a_names, .inl (cL, 24, .inr (.inl a_names))), (h_a_lengths, .inl (cI, 24, .inl a_lengths)), (h_a_rowBytes, .inl (cL, 25, .inr (.inl a_rowBytes))), (h_a_rowLengths, .inl (cI, 25, .inl a_rowLengths))]) hD hS hA [0, 1, 2, 4, 5] rfl
  refine va_callv (va_runV (As := [.int ((-1))]) (rest := []) ⟨hx, hb, hml, hown, hts⟩ (c_M_layNames l dC dI cL cI h_a h_a_names h_a_lengths h_a_serials h_a_targets h_a_rowBytes h_a_rowLengths h_a_placeBytes h_a_placeLengths s.heap.size ((-1)) a_thrown a_count a_names a_lengths a_serials a_targets a_latest a_hand a_handLength a_foundSerial a_rows a_rowBytes a_rowLengths a_places a_placeBytes a_placeLengths a_off a_left a_made u1 hu1) (cwV 1 hts (zgV wk442 wk443 wk444 wk298 wk434) rfl rfl rfl zh_Mod_layNames ⟨Nat.le_of_ble_eq_true rfl, Nat.le_of_ble_eq_true rfl⟩) ⟨fun a U g mk q => by obtain ⟨q0, q1, qP, qK, qD⟩ := q; exact ⟨q0, q1, qP, va_K.moved (u := U) (U := U.calling g mk a) (Vm.Alike.refl U.vm) qK, qD⟩, va_recv hK hP (ci := 4) (q0 := 0) rfl rfl, fun U hU hW => ⟨rfl, by rw [hU], by rw [hU]; exact hPc, va_K.moved hW.alike hK, hDc.weaken (fun _ _ _ _ => trivial)⟩⟩ rfl rfl hl.1 rfl (lv_room (Nat.le_of_ble_eq_true rfl)) zd_Mod_freePages_2 ⟨Nat.le_of_ble_eq_true rfl, Nat.le_of_ble_eq_true rfl⟩) hS (fun q _ h => hFc q h) hFc (fun _ t H1 locs ht hvm hw hB hz1 hk1 hS => ?_)
  obtain ⟨hP1, hD1⟩ := hB
  rw [ht] at hP1
  obtain ⟨hP, hD⟩ := va_join (wr := [(h_a_serials, .inl (cI, 24, .inl a_serials)), (h_a_placeBytes, .inl (cL, 64, .inr (.inl a_placeBytes))), (h_a_placeLengths, .inl (cI, 64, .inl a_placeLengths))]) (w1 := [(h_a, .inr (4, [.int a_thrown, .int a_count, .ref h_a_names, .ref h_a_lengths, .ref h_a_serials, .ref h_a_targets, .int a_latest, .long a_hand, .int a_handLength, .int a_foundSerial, .int u1.1, .ref h_a_rowBytes, .ref h_a_rowLengths, .int a_places, .ref h_a_placeBytes, .ref h_a_placeLengths, .int a_off, .int a_left, .int a_made])), (h_a_names, .inl (cL, 24, .inr (.inl a_names))), (h_a_lengths, .inl (cI, 24, .inl a_lengths)), (h_a_rowBytes, .inl (cL, 25, .inr (.inl u1.2.1))), (h_a_rowLengths, .inl (cI, 25, .inl u1.2.2))]) hP hD [0, 1, 2, 4, 5] [3, 6, 7] rfl rfl (by decide) (by decide) hk1 hFc hP1 hD1
  generalize H1 = H at hP hS ⊢
  have hP : va_P (dC, dI) zCl [(h_a, .inr (4, [.int a_thrown, .int a_count, .ref h_a_names, .ref h_a_lengths, .ref h_a_serials, .ref h_a_targets, .int a_latest, .long a_hand, .int a_handLength, .int a_foundSerial, .int u1.1, .ref h_a_rowBytes, .ref h_a_rowLengths, .int a_places, .ref h_a_placeBytes, .ref h_a_placeLengths, .int a_off, .int a_left, .int a_made])), (h_a_names, .inl (cL, 24, .inr (.inl a_names))), (h_a_lengths, .inl (cI, 24, .inl a_lengths)), (h_a_serials, .inl (cI, 24, .inl a_serials)), (h_a_rowBytes, .inl (cL, 25, .inr (.inl u1.2.1))), (h_a_rowLengths, .inl (cI, 25, .inl u1.2.2)), (h_a_placeBytes, .inl (cL, 64, .inr (.inl a_placeBytes))), (h_a_placeLengths, .inl (cI, 64, .inl a_placeLengths))] H := hP.sub [3, 4, 5, 0, 6, 7, 1, 2] rfl
  have hD : va_D A [(h_a, .inr (4, [.int a_thrown, .int a_count, .ref h_a_names, .ref h_a_lengths, .ref h_a_serials, .ref h_a_targets, .int a_latest, .long a_hand, .int a_handLength, .int a_foundSerial, .int u1.1, .ref h_a_rowBytes, .ref h_a_rowLengths, .int a_places, .ref h_a_placeBytes, .ref h_a_placeLengths, .int a_off, .int a_left, .int a_made])), (h_a_names, .inl (cL, 24, .inr (.inl a_names))), (h_a_lengths, .inl (cI, 24, .inl a_lengths)), (h_a_serials, .inl (cI, 24, .inl a_serials)), (h_a_rowBytes, .inl (cL, 25, .inr (.inl u1.2.1))), (h_a_rowLengths, .inl (cI, 25, .inl u1.2.2)), (h_a_placeBytes, .inl (cL, 64, .inr (.inl a_placeBytes))), (h_a_placeLengths, .inl (cI, 64, .inl a_placeLengths))] := hD.sub [3, 4, 5, 0, 6, 7, 1, 2] (by decide) rfl
  refine lv_aload_n hx hb zd_Mod_freePages_5 rfl (lv_at hl 0 rfl) ?_
  obtain ⟨u2, hu2, hm⟩ := Option.bind_eq_some_iff.mp hm
  have hPc := hP.sub (ws' := [(h_a, .inr (4, [.int a_thrown, .int a_count, .ref h_a_names, .ref h_a_lengths, .ref h_a_serials, .ref h_a_targets, .int a_latest, .long a_hand, .int a_handLength, .int a_foundSerial, .int u1.1, .ref h_a_rowBytes, .ref h_a_rowLengths, .int a_places, .ref h_a_placeBytes, .ref h_a_placeLengths, .int a_off, .int a_left, .int a_made])), (h_a_rowBytes, .inl (cL, 25, .inr (.inl u1.2.1))), (h_a_rowLengths, .inl (cI, 25, .inl u1.2.2)), (h_a_placeBytes, .inl (cL, 64, .inr (.inl a_placeBytes))), (h_a_placeLengths, .inl (cI, 64, .inl a_placeLengths))]) [0, 4, 5, 6, 7] rfl
  have hDc := hD.sub (ws' := [(h_a, .inr (4, [.int a_thrown, .int a_count, .ref h_a_names, .ref h_a_lengths, .ref h_a_serials, .ref h_a_targets, .int a_latest, .long a_hand, .int a_handLength, .int a_foundSerial, .int u1.1, .ref h_a_rowBytes, .ref h_a_rowLengths, .int a_places, .ref h_a_placeBytes, .ref h_a_placeLengths, .int a_off, .int a_left, .int a_made])), (h_a_rowBytes, .inl (cL, 25, .inr (.inl u1.2.1))), (h_a_rowLengths, .inl (cI, 25, .inl u1.2.2)), (h_a_placeBytes, .inl (cL, 64, .inr (.inl a_placeBytes))), (h_a_placeLengths, .inl (cI, 64, .inl a_placeLengths))]) [0, 4, 5, 6, 7] (by decide) rfl
  have hFc := va_free (wc := [(h_a, .inr (4, [.int a_thrown, .int a_count, .ref h_a_names, .ref h_a_lengths, .ref h_a_serials, .ref h_a_targets, .int a_latest, .long a_hand, .int a_handLength, .int a_foundSerial, .int u1.1, .ref h_a_rowBytes, .ref h_a_rowLengths, .int a_places, .ref h_a_placeBytes, .ref h_a_placeLengths, .int a_off, .int a_left, .int a_made])), (h_a_rowBytes, .inl (cL, 25, .inr (.inl u1.2.1))), (h_a_rowLengths, .inl (cI, 25, .inl u1.2.2)), (h_a_placeBytes, .inl (cL, 64, .inr (.inl a_placeBytes))), (h_a_placeLengths, .inl (cI, 64, .inl a_placeLengths))]) hD hS hA [0, 4, 5, 6, 7] rfl
  refine va_callv (va_runV (As := []) (rest := []) ⟨hx, hb, hml, hown, hts⟩ (c_M_layPlaces l dC dI cL cI h_a h_a_names h_a_lengths h_a_serials h_a_targets h_a_rowBytes h_a_rowLengths h_a_placeBytes h_a_placeLengths H.size a_thrown a_count a_names a_lengths a_serials a_targets a_latest a_hand a_handLength a_foundSerial u1.1 u1.2.1 u1.2.2 a_places a_placeBytes a_placeLengths a_off a_left a_made u2 hu2) (cwV 0 hts (zgV wk445 wk446 wk447 wk298 wk426) rfl rfl rfl zh_Mod_layPlaces ⟨Nat.le_of_ble_eq_true rfl, Nat.le_of_ble_eq_true rfl⟩) ⟨fun a U g mk q => by obtain ⟨q0, q1, qP, qK, qD⟩ := q; exact ⟨q0, q1, qP, va_K.moved (u := U) (U := U.calling g mk a) (Vm.Alike.refl U.vm) qK, qD⟩, va_recv hK hP (ci := 4) (q0 := 0) rfl rfl, fun U hU hW => ⟨rfl, by rw [hU], by rw [hU]; exact hPc, va_K.moved hW.alike hK, hDc.weaken (fun _ _ _ _ => trivial)⟩⟩ rfl rfl hl.1 rfl (lv_room (Nat.le_of_ble_eq_true rfl)) zd_Mod_freePages_6 ⟨Nat.le_of_ble_eq_true rfl, Nat.le_of_ble_eq_true rfl⟩) hS (fun q _ h => hFc q h) hFc (fun _ t H1 locs ht hvm hw hB hz1 hk1 hS => ?_)
  obtain ⟨hP1, hD1⟩ := hB
  rw [ht] at hP1
  obtain ⟨hP, hD⟩ := va_join (wr := [(h_a_names, .inl (cL, 24, .inr (.inl a_names))), (h_a_lengths, .inl (cI, 24, .inl a_lengths)), (h_a_serials, .inl (cI, 24, .inl a_serials))]) (w1 := [(h_a, .inr (4, [.int a_thrown, .int a_count, .ref h_a_names, .ref h_a_lengths, .ref h_a_serials, .ref h_a_targets, .int a_latest, .long a_hand, .int a_handLength, .int a_foundSerial, .int u1.1, .ref h_a_rowBytes, .ref h_a_rowLengths, .int u2.1, .ref h_a_placeBytes, .ref h_a_placeLengths, .int a_off, .int a_left, .int a_made])), (h_a_rowBytes, .inl (cL, 25, .inr (.inl u1.2.1))), (h_a_rowLengths, .inl (cI, 25, .inl u1.2.2)), (h_a_placeBytes, .inl (cL, 64, .inr (.inl u2.2.1))), (h_a_placeLengths, .inl (cI, 64, .inl u2.2.2))]) hP hD [0, 4, 5, 6, 7] [1, 2, 3] rfl rfl (by decide) (by decide) hk1 hFc hP1 hD1
  generalize H1 = H at hP hS ⊢
  have hP : va_P (dC, dI) zCl [(h_a, .inr (4, [.int a_thrown, .int a_count, .ref h_a_names, .ref h_a_lengths, .ref h_a_serials, .ref h_a_targets, .int a_latest, .long a_hand, .int a_handLength, .int a_foundSerial, .int u1.1, .ref h_a_rowBytes, .ref h_a_rowLengths, .int u2.1, .ref h_a_placeBytes, .ref h_a_placeLengths, .int a_off, .int a_left, .int a_made])), (h_a_names, .inl (cL, 24, .inr (.inl a_names))), (h_a_lengths, .inl (cI, 24, .inl a_lengths)), (h_a_serials, .inl (cI, 24, .inl a_serials)), (h_a_rowBytes, .inl (cL, 25, .inr (.inl u1.2.1))), (h_a_rowLengths, .inl (cI, 25, .inl u1.2.2)), (h_a_placeBytes, .inl (cL, 64, .inr (.inl u2.2.1))), (h_a_placeLengths, .inl (cI, 64, .inl u2.2.2))] H := hP.sub [3, 0, 1, 2, 4, 5, 6, 7] rfl
  have hD : va_D A [(h_a, .inr (4, [.int a_thrown, .int a_count, .ref h_a_names, .ref h_a_lengths, .ref h_a_serials, .ref h_a_targets, .int a_latest, .long a_hand, .int a_handLength, .int a_foundSerial, .int u1.1, .ref h_a_rowBytes, .ref h_a_rowLengths, .int u2.1, .ref h_a_placeBytes, .ref h_a_placeLengths, .int a_off, .int a_left, .int a_made])), (h_a_names, .inl (cL, 24, .inr (.inl a_names))), (h_a_lengths, .inl (cI, 24, .inl a_lengths)), (h_a_serials, .inl (cI, 24, .inl a_serials)), (h_a_rowBytes, .inl (cL, 25, .inr (.inl u1.2.1))), (h_a_rowLengths, .inl (cI, 25, .inl u1.2.2)), (h_a_placeBytes, .inl (cL, 64, .inr (.inl u2.2.1))), (h_a_placeLengths, .inl (cI, 64, .inl u2.2.2))] := hD.sub [3, 0, 1, 2, 4, 5, 6, 7] (by decide) rfl
  refine lv_aload_n hx hb zd_Mod_freePages_9 rfl (lv_at hl 0 rfl) ?_
  refine va_get (D := (dC, dI)) (ci := 4) (v := .int u2.1) (C := zR_Mod) (T := zT_Mod) (N := 19) hx hb hts zu_Mod hown hK hP 0 rfl rfl 13 (by decide) (hts _ wk425) (fun _ h9 => h9) rfl zd_Mod_freePages_10 ?_
  refine lv_istore_n (lv' := [(1, .int u2.1), (0, .ref h_a)]) hx hb zd_Mod_freePages_13 rfl hl (by decide) rfl (fun ls hl => ?_)
  refine lv_aload_n hx hb zd_Mod_freePages_14 rfl (lv_at hl 1 rfl) ?_
  refine lv_iconst (v := (-1)) hx hb zd_Mod_freePages_15 (by decide) ?_
  obtain ⟨u3, hu3, hm⟩ := Option.bind_eq_some_iff.mp hm
  have hPc := hP.sub (ws' := [(h_a, .inr (4, [.int a_thrown, .int a_count, .ref h_a_names, .ref h_a_lengths, .ref h_a_serials, .ref h_a_targets, .int a_latest, .long a_hand, .int a_handLength, .int a_foundSerial, .int u1.1, .ref h_a_rowBytes, .ref h_a_rowLengths, .int u2.1, .ref h_a_placeBytes, .ref h_a_placeLengths, .int a_off, .int a_left, .int a_made])), (h_a_serials, .inl (cI, 24, .inl a_serials)), (h_a_rowBytes, .inl (cL, 25, .inr (.inl u1.2.1))), (h_a_rowLengths, .inl (cI, 25, .inl u1.2.2))]) [0, 3, 4, 5] rfl
  have hDc := hD.sub (ws' := [(h_a, .inr (4, [.int a_thrown, .int a_count, .ref h_a_names, .ref h_a_lengths, .ref h_a_serials, .ref h_a_targets, .int a_latest, .long a_hand, .int a_handLength, .int a_foundSerial, .int u1.1, .ref h_a_rowBytes, .ref h_a_rowLengths, .int u2.1, .ref h_a_placeBytes, .ref h_a_placeLengths, .int a_off, .int a_left, .int a_made])), (h_a_serials, .inl (cI, 24, .inl a_serials)), (h_a_rowBytes, .inl (cL, 25, .inr (.inl u1.2.1))), (h_a_rowLengths, .inl (cI, 25, .inl u1.2.2))]) [0, 3, 4, 5] (by decide) rfl
  have hFc := va_free (wc := [(h_a, .inr (4, [.int a_thrown, .int a_count, .ref h_a_names, .ref h_a_lengths, .ref h_a_serials, .ref h_a_targets, .int a_latest, .long a_hand, .int a_handLength, .int a_foundSerial, .int u1.1, .ref h_a_rowBytes, .ref h_a_rowLengths, .int u2.1, .ref h_a_placeBytes, .ref h_a_placeLengths, .int a_off, .int a_left, .int a_made])), (h_a_serials, .inl (cI, 24, .inl a_serials)), (h_a_rowBytes, .inl (cL, 25, .inr (.inl u1.2.1))), (h_a_rowLengths, .inl (cI, 25, .inl u1.2.2))]) hD hS hA [0, 3, 4, 5] rfl
  refine va_callv (va_runV (As := [.int ((-1))]) (rest := []) ⟨hx, hb, hml, hown, hts⟩ (c_M_laySerials l dC dI cL cI h_a h_a_names h_a_lengths h_a_serials h_a_targets h_a_rowBytes h_a_rowLengths h_a_placeBytes h_a_placeLengths H.size ((-1)) a_thrown a_count a_names a_lengths a_serials a_targets a_latest a_hand a_handLength a_foundSerial u1.1 u1.2.1 u1.2.2 u2.1 u2.2.1 u2.2.2 a_off a_left a_made u3 hu3) (cwV 1 hts (zgV wk448 wk449 wk450 wk298 wk438) rfl rfl rfl zh_Mod_laySerials ⟨Nat.le_of_ble_eq_true rfl, Nat.le_of_ble_eq_true rfl⟩) ⟨fun a U g mk q => by obtain ⟨q0, q1, qP, qK, qD⟩ := q; exact ⟨q0, q1, qP, va_K.moved (u := U) (U := U.calling g mk a) (Vm.Alike.refl U.vm) qK, qD⟩, va_recv hK hP (ci := 4) (q0 := 0) rfl rfl, fun U hU hW => ⟨rfl, by rw [hU], by rw [hU]; exact hPc, va_K.moved hW.alike hK, hDc.weaken (fun _ _ _ _ => trivial)⟩⟩ rfl rfl hl.1 rfl (lv_room (Nat.le_of_ble_eq_true rfl)) zd_Mod_freePages_16 ⟨Nat.le_of_ble_eq_true rfl, Nat.le_of_ble_eq_true rfl⟩) hS (fun q _ h => hFc q h) hFc (fun _ t H1 locs ht hvm hw hB hz1 hk1 hS => ?_)
  obtain ⟨hP1, hD1⟩ := hB
  rw [ht] at hP1
  obtain ⟨hP, hD⟩ := va_join (wr := [(h_a_names, .inl (cL, 24, .inr (.inl a_names))), (h_a_lengths, .inl (cI, 24, .inl a_lengths)), (h_a_placeBytes, .inl (cL, 64, .inr (.inl u2.2.1))), (h_a_placeLengths, .inl (cI, 64, .inl u2.2.2))]) (w1 := [(h_a, .inr (4, [.int a_thrown, .int a_count, .ref h_a_names, .ref h_a_lengths, .ref h_a_serials, .ref h_a_targets, .int a_latest, .long a_hand, .int a_handLength, .int a_foundSerial, .int u3.1, .ref h_a_rowBytes, .ref h_a_rowLengths, .int u2.1, .ref h_a_placeBytes, .ref h_a_placeLengths, .int a_off, .int a_left, .int a_made])), (h_a_serials, .inl (cI, 24, .inl a_serials)), (h_a_rowBytes, .inl (cL, 25, .inr (.inl u3.2.1))), (h_a_rowLengths, .inl (cI, 25, .inl u3.2.2))]) hP hD [0, 3, 4, 5] [1, 2, 6, 7] rfl rfl (by decide) (by decide) hk1 hFc hP1 hD1
  generalize H1 = H at hP hS ⊢
  have hP : va_P (dC, dI) zCl [(h_a, .inr (4, [.int a_thrown, .int a_count, .ref h_a_names, .ref h_a_lengths, .ref h_a_serials, .ref h_a_targets, .int a_latest, .long a_hand, .int a_handLength, .int a_foundSerial, .int u3.1, .ref h_a_rowBytes, .ref h_a_rowLengths, .int u2.1, .ref h_a_placeBytes, .ref h_a_placeLengths, .int a_off, .int a_left, .int a_made])), (h_a_names, .inl (cL, 24, .inr (.inl a_names))), (h_a_lengths, .inl (cI, 24, .inl a_lengths)), (h_a_serials, .inl (cI, 24, .inl a_serials)), (h_a_rowBytes, .inl (cL, 25, .inr (.inl u3.2.1))), (h_a_rowLengths, .inl (cI, 25, .inl u3.2.2)), (h_a_placeBytes, .inl (cL, 64, .inr (.inl u2.2.1))), (h_a_placeLengths, .inl (cI, 64, .inl u2.2.2))] H := hP.sub [4, 0, 1, 5, 6, 7, 2, 3] rfl
  have hD : va_D A [(h_a, .inr (4, [.int a_thrown, .int a_count, .ref h_a_names, .ref h_a_lengths, .ref h_a_serials, .ref h_a_targets, .int a_latest, .long a_hand, .int a_handLength, .int a_foundSerial, .int u3.1, .ref h_a_rowBytes, .ref h_a_rowLengths, .int u2.1, .ref h_a_placeBytes, .ref h_a_placeLengths, .int a_off, .int a_left, .int a_made])), (h_a_names, .inl (cL, 24, .inr (.inl a_names))), (h_a_lengths, .inl (cI, 24, .inl a_lengths)), (h_a_serials, .inl (cI, 24, .inl a_serials)), (h_a_rowBytes, .inl (cL, 25, .inr (.inl u3.2.1))), (h_a_rowLengths, .inl (cI, 25, .inl u3.2.2)), (h_a_placeBytes, .inl (cL, 64, .inr (.inl u2.2.1))), (h_a_placeLengths, .inl (cI, 64, .inl u2.2.2))] := hD.sub [4, 0, 1, 5, 6, 7, 2, 3] (by decide) rfl
  refine lv_aload_n hx hb zd_Mod_freePages_19 rfl (lv_at hl 1 rfl) ?_
  obtain ⟨u4, hu4, hm⟩ := Option.bind_eq_some_iff.mp hm
  have hPc := hP.sub (ws' := [(h_a, .inr (4, [.int a_thrown, .int a_count, .ref h_a_names, .ref h_a_lengths, .ref h_a_serials, .ref h_a_targets, .int a_latest, .long a_hand, .int a_handLength, .int a_foundSerial, .int u3.1, .ref h_a_rowBytes, .ref h_a_rowLengths, .int u2.1, .ref h_a_placeBytes, .ref h_a_placeLengths, .int a_off, .int a_left, .int a_made])), (h_a_rowBytes, .inl (cL, 25, .inr (.inl u3.2.1))), (h_a_rowLengths, .inl (cI, 25, .inl u3.2.2)), (h_a_placeBytes, .inl (cL, 64, .inr (.inl u2.2.1))), (h_a_placeLengths, .inl (cI, 64, .inl u2.2.2))]) [0, 4, 5, 6, 7] rfl
  have hDc := hD.sub (ws' := [(h_a, .inr (4, [.int a_thrown, .int a_count, .ref h_a_names, .ref h_a_lengths, .ref h_a_serials, .ref h_a_targets, .int a_latest, .long a_hand, .int a_handLength, .int a_foundSerial, .int u3.1, .ref h_a_rowBytes, .ref h_a_rowLengths, .int u2.1, .ref h_a_placeBytes, .ref h_a_placeLengths, .int a_off, .int a_left, .int a_made])), (h_a_rowBytes, .inl (cL, 25, .inr (.inl u3.2.1))), (h_a_rowLengths, .inl (cI, 25, .inl u3.2.2)), (h_a_placeBytes, .inl (cL, 64, .inr (.inl u2.2.1))), (h_a_placeLengths, .inl (cI, 64, .inl u2.2.2))]) [0, 4, 5, 6, 7] (by decide) rfl
  have hFc := va_free (wc := [(h_a, .inr (4, [.int a_thrown, .int a_count, .ref h_a_names, .ref h_a_lengths, .ref h_a_serials, .ref h_a_targets, .int a_latest, .long a_hand, .int a_handLength, .int a_foundSerial, .int u3.1, .ref h_a_rowBytes, .ref h_a_rowLengths, .int u2.1, .ref h_a_placeBytes, .ref h_a_placeLengths, .int a_off, .int a_left, .int a_made])), (h_a_rowBytes, .inl (cL, 25, .inr (.inl u3.2.1))), (h_a_rowLengths, .inl (cI, 25, .inl u3.2.2)), (h_a_placeBytes, .inl (cL, 64, .inr (.inl u2.2.1))), (h_a_placeLengths, .inl (cI, 64, .inl u2.2.2))]) hD hS hA [0, 4, 5, 6, 7] rfl
  refine va_callv (va_runV (As := []) (rest := []) ⟨hx, hb, hml, hown, hts⟩ (c_M_layPlaces l dC dI cL cI h_a h_a_names h_a_lengths h_a_serials h_a_targets h_a_rowBytes h_a_rowLengths h_a_placeBytes h_a_placeLengths H.size a_thrown a_count a_names a_lengths a_serials a_targets a_latest a_hand a_handLength a_foundSerial u3.1 u3.2.1 u3.2.2 u2.1 u2.2.1 u2.2.2 a_off a_left a_made u4 hu4) (cwV 0 hts (zgV wk445 wk446 wk447 wk298 wk426) rfl rfl rfl zh_Mod_layPlaces ⟨Nat.le_of_ble_eq_true rfl, Nat.le_of_ble_eq_true rfl⟩) ⟨fun a U g mk q => by obtain ⟨q0, q1, qP, qK, qD⟩ := q; exact ⟨q0, q1, qP, va_K.moved (u := U) (U := U.calling g mk a) (Vm.Alike.refl U.vm) qK, qD⟩, va_recv hK hP (ci := 4) (q0 := 0) rfl rfl, fun U hU hW => ⟨rfl, by rw [hU], by rw [hU]; exact hPc, va_K.moved hW.alike hK, hDc.weaken (fun _ _ _ _ => trivial)⟩⟩ rfl rfl hl.1 rfl (lv_room (Nat.le_of_ble_eq_true rfl)) zd_Mod_freePages_20 ⟨Nat.le_of_ble_eq_true rfl, Nat.le_of_ble_eq_true rfl⟩) hS (fun q _ h => hFc q h) hFc (fun _ t H1 locs ht hvm hw hB hz1 hk1 hS => ?_)
  obtain ⟨hP1, hD1⟩ := hB
  rw [ht] at hP1
  obtain ⟨hP, hD⟩ := va_join (wr := [(h_a_names, .inl (cL, 24, .inr (.inl a_names))), (h_a_lengths, .inl (cI, 24, .inl a_lengths)), (h_a_serials, .inl (cI, 24, .inl a_serials))]) (w1 := [(h_a, .inr (4, [.int a_thrown, .int a_count, .ref h_a_names, .ref h_a_lengths, .ref h_a_serials, .ref h_a_targets, .int a_latest, .long a_hand, .int a_handLength, .int a_foundSerial, .int u3.1, .ref h_a_rowBytes, .ref h_a_rowLengths, .int u4.1, .ref h_a_placeBytes, .ref h_a_placeLengths, .int a_off, .int a_left, .int a_made])), (h_a_rowBytes, .inl (cL, 25, .inr (.inl u3.2.1))), (h_a_rowLengths, .inl (cI, 25, .inl u3.2.2)), (h_a_placeBytes, .inl (cL, 64, .inr (.inl u4.2.1))), (h_a_placeLengths, .inl (cI, 64, .inl u4.2.2))]) hP hD [0, 4, 5, 6, 7] [1, 2, 3] rfl rfl (by decide) (by decide) hk1 hFc hP1 hD1
  generalize H1 = H at hP hS ⊢
  have hP : va_P (dC, dI) zCl [(h_a, .inr (4, [.int a_thrown, .int a_count, .ref h_a_names, .ref h_a_lengths, .ref h_a_serials, .ref h_a_targets, .int a_latest, .long a_hand, .int a_handLength, .int a_foundSerial, .int u3.1, .ref h_a_rowBytes, .ref h_a_rowLengths, .int u4.1, .ref h_a_placeBytes, .ref h_a_placeLengths, .int a_off, .int a_left, .int a_made])), (h_a_names, .inl (cL, 24, .inr (.inl a_names))), (h_a_lengths, .inl (cI, 24, .inl a_lengths)), (h_a_serials, .inl (cI, 24, .inl a_serials)), (h_a_rowBytes, .inl (cL, 25, .inr (.inl u3.2.1))), (h_a_rowLengths, .inl (cI, 25, .inl u3.2.2)), (h_a_placeBytes, .inl (cL, 64, .inr (.inl u4.2.1))), (h_a_placeLengths, .inl (cI, 64, .inl u4.2.2))] H := hP.sub [3, 0, 1, 2, 4, 5, 6, 7] rfl
  have hD : va_D A [(h_a, .inr (4, [.int a_thrown, .int a_count, .ref h_a_names, .ref h_a_lengths, .ref h_a_serials, .ref h_a_targets, .int a_latest, .long a_hand, .int a_handLength, .int a_foundSerial, .int u3.1, .ref h_a_rowBytes, .ref h_a_rowLengths, .int u4.1, .ref h_a_placeBytes, .ref h_a_placeLengths, .int a_off, .int a_left, .int a_made])), (h_a_names, .inl (cL, 24, .inr (.inl a_names))), (h_a_lengths, .inl (cI, 24, .inl a_lengths)), (h_a_serials, .inl (cI, 24, .inl a_serials)), (h_a_rowBytes, .inl (cL, 25, .inr (.inl u3.2.1))), (h_a_rowLengths, .inl (cI, 25, .inl u3.2.2)), (h_a_placeBytes, .inl (cL, 64, .inr (.inl u4.2.1))), (h_a_placeLengths, .inl (cI, 64, .inl u4.2.2))] := hD.sub [3, 0, 1, 2, 4, 5, 6, 7] (by decide) rfl
  refine lv_bipush (v := 60) hx hb zd_Mod_freePages_23 (by decide) ?_
  refine lv_iload_n hx hb zd_Mod_freePages_25 rfl (lv_at hl 0 rfl) ?_
  refine lv_isub hx hb zd_Mod_freePages_26 ?_
  refine lv_aload_n hx hb zd_Mod_freePages_27 rfl (lv_at hl 1 rfl) ?_
  refine va_get (D := (dC, dI)) (ci := 4) (v := .int u4.1) (C := zR_Mod) (T := zT_Mod) (N := 19) hx hb hts zu_Mod hown hK hP 0 rfl rfl 13 (by decide) (hts _ wk425) (fun _ h9 => h9) rfl zd_Mod_freePages_28 ?_
  refine lv_isub hx hb zd_Mod_freePages_31 ?_
  obtain rfl := Option.some.inj hm
  exact KR 32 ls _ _ zd_Mod_freePages_32 hP hD hS
