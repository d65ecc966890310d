/-! Counts agree; the system's directory. -/
theorem pg1 {nr : Nat → Int64} {R X : List (List Nat)} {F : Nat → Int64} {G : Nat → Int32} (hR : okR nr R) (hp : R.Perm X) (hB : aB F G X) (hv : ∀ a ∈ X, vd a) (hN : X.Nodup) (hl : X.length ≤ 25) {s : List Nat} (hs : vd s) (f : Nat → Int64) (g : Nat → Int32) : ∃ n f' g' P, n < 64 ∧ m_RowSet_placesAlong (lN (rk 7 s)) 0 nr (nI R.length) = some (nI n) ∧ m_M_layPlaces (nI X.length) F G f g = some (nI (List.length (α := List Nat) P), f', g') ∧ m_M_beginnings (lN (pr s)) (nI s.length) (lN (pr s)) (nI s.length) (nI P.length) f' g' = some (nI n) := by
  obtain ⟨Q, e1, hQ, hM⟩ := qs_along hR hs (k := 0) (Nat.zero_le _)
  obtain ⟨f', g', P, e2, hP, hM2⟩ := qm_lp hB hv hN hl f g
  have hPl := okP_len hP hl
  have e3 := qm_bg hP.1 (fun p h => isP_vd hv (hP.2.2 p h)) hPl hs hs
  have hlen : Q.length = (P.filter (bg2 s s)).length := by
    apply nd_len hQ (hP.2.1.filter _)
    intro p
    rw [hM p, List.mem_filter, hM2 p, isP_perm hp]
    unfold bg2 bgn
    constructor
    · rintro ⟨h1, h2, _⟩
      exact ⟨h1, by rw [decide_eq_true h2]; rfl⟩
    · rintro ⟨h1, h2⟩
      rw [Bool.or_self] at h2
      exact ⟨h1, of_decide_eq_true h2, Nat.zero_le _⟩
  have hfl := List.length_filter_le (bg2 s s) P
  have e1' : m_RowSet_placesAlong (lN (rk 7 s)) 0 nr (nI R.length) = some (nI Q.length) := e1
  rw [hlen] at e1'
  exact ⟨_, f', g', P, by omega, e1', e2, e3⟩
theorem pg2 {nr : Nat → Int64} {R X : List (List Nat)} {F : Nat → Int64} {G : Nat → Int32} (hR : okR nr R) (hp : R.Perm X) (hB : aB F G X) (hv : ∀ a ∈ X, vd a) (hN : X.Nodup) (hl : X.length ≤ 25) {s t : List Nat} (hs : vd s) (ht : vd t) (hst : t ≠ s) (f : Nat → Int64) (g : Nat → Int32) : ∃ n f' g' P, n < 64 ∧ m_Directory_pagesOfNames (lN (rk 7 t)) (lN (rk 7 s)) nr (nI R.length) = some (nI n) ∧ m_M_layPlaces (nI X.length) F G f g = some (nI (List.length (α := List Nat) P), f', g') ∧ m_M_beginnings (lN (pr s)) (nI s.length) (lN (pr t)) (nI t.length) (nI P.length) f' g' = some (nI n) := by
  have hlc := lc_le t s
  have ltk := lc_take t s
  obtain ⟨Q1, e1, hQ1, hM1⟩ := qs_along hR ht (k := 0) (Nat.zero_le _)
  obtain ⟨Q2, e2, hQ2, hM2⟩ := qs_along hR hs (k := lc t s + 1) (by omega)
  obtain ⟨f', g', P, e3, hP, hM3⟩ := qm_lp hB hv hN hl f g
  have hPl := okP_len hP hl
  have e4 := qm_bg hP.1 (fun p h => isP_vd hv (hP.2.2 p h)) hPl hs ht
  have hlen : (Q1 ++ Q2).length = (P.filter (bg2 s t)).length := by
    apply nd_len _ (hP.2.1.filter _)
    · intro p
      rw [List.mem_append, hM1 p, hM2 p, List.mem_filter, hM3 p, isP_perm hp]
      unfold bg2
      rw [Bool.or_eq_true, decide_eq_true_eq, decide_eq_true_eq]
      unfold bgn
      constructor
      · rintro (⟨h1, h2, _⟩ | ⟨h1, h2, _⟩)
        · exact ⟨h1, Or.inr h2⟩
        · exact ⟨h1, Or.inl h2⟩
      · rintro ⟨h1, h2 | h2⟩
        · by_cases c : p.length ≤ lc t s
          · refine Or.inl ⟨h1, ?_, Nat.zero_le _⟩
            rw [take_le_take ltk c]
            exact h2
          · exact Or.inr ⟨h1, h2, by omega⟩
        · exact Or.inl ⟨h1, h2, Nat.zero_le _⟩
    · rw [List.nodup_append]
      refine ⟨hQ1, hQ2, ?_⟩
      intro a ha b hb e
      rw [← e] at hb
      have h1 := (hM1 a).mp ha
      have h2 := (hM2 a).mp hb
      have l1 := bgn_len h1.2.1
      have l2 := bgn_len h2.2.1
      have b1 := h1.2.1
      have b2 := h2.2.1
      unfold bgn at b1 b2
      have := lc_max t s a.length l1 l2 (by rw [← b1, ← b2])
      omega
  have hfl := List.length_filter_le (bg2 s t) P
  rw [List.length_append] at hlen
  have e1' : m_RowSet_placesAlong (lN (rk 7 t)) 0 nr (nI R.length) = some (nI Q1.length) := e1
  refine ⟨Q1.length + Q2.length, f', g', P, by omega, ?_, e3, by rw [hlen]; exact e4⟩
  unfold m_Directory_pagesOfNames
  rw [qc_com ht hs hst, Option.bind_some, e1', Option.bind_some, nI_1, e2, Option.bind_some, nI_add]
/-! arrays and lists -/
def arr {α β : Type} (e : α → β) (f : Nat → β) (l : List α) : Prop := ∀ i a, l[i]? = some a → f i = e a
theorem arr_cpy {α β : Type} {e : α → β} {f : Nat → β} {l : List α} (h : arr e f l) (g : Nat → β) : arr e (va_cpy f g 0 0 l.length) l := by
  intro i a hi
  have := get_lt hi
  rw [pk_cpy_in (by omega) (by omega), show 0 + (i - 0) = i by omega]
  exact h i a hi
theorem arr_er {α β : Type} {e : α → β} {f : Nat → β} {l : List α} (h : arr e f l) {j : Nat} (hj : j < l.length) : arr e (va_cpy f f (j + 1) j (l.length - 1 - j)) (l.eraseIdx j) := by
  intro i a hi
  have hi2 := get_lt hi
  rw [List.length_eraseIdx, if_pos hj] at hi2
  rw [List.getElem?_eraseIdx] at hi
  by_cases c1 : i < j
  · rw [if_pos c1] at hi
    rw [pk_cpy_out (by omega)]
    exact h i a hi
  · rw [if_neg c1] at hi
    rw [pk_cpy_in (by omega) (by omega), show j + 1 + (i - j) = i + 1 by omega]
    exact h (i + 1) a hi
theorem get_snoc {α : Type} {l : List α} {b a : α} {i : Nat} (h : (l ++ [b])[i]? = some a) : l[i]? = some a ∧ i < l.length ∨ i = l.length ∧ a = b := by
  by_cases c : i < l.length
  · rw [List.getElem?_append_left c] at h
    exact Or.inl ⟨h, c⟩
  · have h2 := get_lt h
    rw [List.length_append, List.length_singleton] at h2
    have e : i = l.length := by omega
    subst e
    rw [List.getElem?_append_right (Nat.le_refl _), Nat.sub_self] at h
    simp only [List.getElem?_cons_zero, Option.some.injEq] at h
    exact Or.inr ⟨rfl, h.symm⟩
theorem arr_snI {α : Type} {e : α → Int32} {f : Nat → Int32} {l : List α} (h : arr e f l) (b : α) {x : Int32} (hx : x = e b) : arr e (upd f l.length x) (l ++ [b]) := by
  intro i a hi
  rcases get_snoc hi with ⟨h1, h2⟩ | ⟨h1, h2⟩
  · rw [pk_un (by omega)]
    exact h i a h1
  · rw [h1, pk_us, hx, h2]
theorem arr_snL {α : Type} {e : α → Int64} {f : Nat → Int64} {l : List α} (h : arr e f l) (b : α) {x : Int64} (hx : x = e b) : arr e (vp_updL f l.length x) (l ++ [b]) := by
  intro i a hi
  rcases get_snoc hi with ⟨h1, h2⟩ | ⟨h1, h2⟩
  · rw [pk_uLn (by omega)]
    exact h i a h1
  · rw [h1, pk_uLs, hx, h2]
theorem arr_setI {α : Type} {e : α → Int32} {f : Nat → Int32} {l : List α} (h : arr e f l) (j : Nat) (b : α) {x : Int32} (hx : x = e b) : arr e (upd f j x) (l.set j b) := by
  intro i a hi
  rw [List.getElem?_set] at hi
  by_cases c : j = i
  · subst c
    rw [if_pos rfl] at hi
    split at hi
    · injection hi with hi
      rw [pk_us, hx, hi]
    · cases hi
  · rw [if_neg c] at hi
    rw [pk_un (fun e => c e.symm)]
    exact h i a hi
theorem arr_setL {α : Type} {e : α → Int64} {f : Nat → Int64} {l : List α} (h : arr e f l) (j : Nat) (b : α) {x : Int64} (hx : x = e b) : arr e (vp_updL f j x) (l.set j b) := by
  intro i a hi
  rw [List.getElem?_set] at hi
  by_cases c : j = i
  · subst c
    rw [if_pos rfl] at hi
    split at hi
    · injection hi with hi
      rw [pk_uLs, hx, hi]
    · cases hi
  · rw [if_neg c] at hi
    rw [pk_uLn (fun e => c e.symm)]
    exact h i a hi
/-! a directory of the system -/
def RS (f : Nat → Int64) (sz : Int32) (X : List (List Nat)) : Prop := ∃ R, okR f R ∧ R.Perm X ∧ sz = nI R.length
def DR (nm : Nat → Int64) (se ta : Nat → Int32) (nr : Nat → Int64) (nrs : Int32) (sw : Nat → Int64) (sws sz la : Int32) (N : List (List Nat)) (S : List Nat) (T : List Int32) (L : Nat) : Prop :=
  arr (fun a => lN (rk 7 a)) nm N ∧ arr nI se S ∧ arr (fun a => a) ta T ∧ RS nr nrs N ∧ RS sw sws (S.map sr) ∧ sz = nI N.length ∧ la = nI L
def AI (N : List (List Nat)) (S : List Nat) (T : List Int32) (L : Nat) : Prop :=
  N.length ≤ 24 ∧ S.length = N.length ∧ T.length = N.length ∧ N.Nodup ∧ (∀ a ∈ N, vd a ∧ a ≠ []) ∧ S.Pairwise (· < ·) ∧ (∀ a ∈ S, 1 ≤ a ∧ a ≤ L) ∧ L ≤ 600
theorem RS.copy {f g : Nat → Int64} {sz : Int32} {X : List (List Nat)} (h : RS f sz X) : ∃ f', m_RowSet_copyFrom g f sz = some (f', sz) ∧ RS f' sz X := by
  obtain ⟨R, h1, h2, h3⟩ := h
  subst h3
  obtain ⟨f', e, h4⟩ := qs_copy h1 (g := g)
  exact ⟨f', e, R, h4, h2, rfl⟩
theorem RS.ins {f : Nat → Int64} {sz : Int32} {X : List (List Nat)} (h : RS f sz X) {x : List Nat} (hx : vd x) (hn : x ∉ X) (hl : X.length < 24) : ∃ f' sz', m_RowSet_insert (lN (rk 7 x)) f sz = some (f', sz') ∧ RS f' sz' (X ++ [x]) := by
  obtain ⟨R, h1, h2, h3⟩ := h
  subst h3
  obtain ⟨f', R', e, h4, h5⟩ := qs_ins h1 hx (fun hm => hn (h2.mem_iff.mp hm)) (by rw [h2.length_eq]; exact hl)
  exact ⟨f', _, e, R', h4, (h5.trans (h2.cons x)).trans (List.perm_append_singleton x X).symm, rfl⟩
theorem RS.take {f : Nat → Int64} {sz : Int32} {X Y : List (List Nat)} (h : RS f sz X) {x : List Nat} (hx : x ∈ X) (hY : (x :: Y).Perm X) : ∃ f' sz', m_RowSet_take (lN (rk 7 x)) f sz = some (f', sz') ∧ RS f' sz' Y := by
  obtain ⟨R, h1, h2, h3⟩ := h
  subst h3
  obtain ⟨f', R', e, h4, h5⟩ := qs_take h1 (h2.mem_iff.mpr hx)
  exact ⟨f', _, e, R', h4, ((h5.trans h2).trans hY.symm).cons_inv, rfl⟩
theorem qd_copy {nm : Nat → Int64} {se ta : Nat → Int32} {nr : Nat → Int64} {nrs : Int32} {sw : Nat → Int64} {sws sz la : Int32} {N : List (List Nat)} {S : List Nat} {T : List Int32} {L : Nat} (h : DR nm se ta nr nrs sw sws sz la N S T L) (hA : AI N S T L) (nm2 : Nat → Int64) (se2 ta2 : Nat → Int32) (nr2 sw2 : Nat → Int64) : ∃ nm' se' ta' nr' sw', m_Directory_copyFrom nm2 se2 ta2 nr2 sw2 nm se ta nr nrs sw sws sz la = some (nm', se', ta', nr', nrs, sw', sws, sz, la) ∧ DR nm' se' ta' nr' nrs sw' sws sz la N S T L := by
  obtain ⟨h1, h2, h3, h4, h5, h6, h7⟩ := h
  obtain ⟨a1, a2, a3, -⟩ := hA
  obtain ⟨nr', e1, k1⟩ := h4.copy (g := nr2)
  obtain ⟨sw', e2, k2⟩ := h5.copy (g := sw2)
  subst h6
  have c : ¬ ((0 : Int32) < 0 ∨ (0 : Int32) < 0 ∨ nI N.length < 0 ∨ 24 < (0 : Int32).toNatClampNeg + (nI N.length).toNatClampNeg ∨ 24 < (0 : Int32).toNatClampNeg + (nI N.length).toNatClampNeg) := cpyOK (sp := 0) (dp := 0) (by omega) (by omega) (by decide) (by decide)
  refine ⟨va_cpy nm nm2 0 0 N.length, va_cpy se se2 0 0 N.length, va_cpy ta ta2 0 0 N.length, nr', sw', ?_, arr_cpy h1 nm2, by rw [← a2]; exact arr_cpy h2 se2, by rw [← a3]; exact arr_cpy h3 ta2, k1, k2, rfl, h7⟩
  unfold m_Directory_copyFrom
  rw [if_neg c, if_neg c, if_neg c, e1, Option.bind_some, e2, Option.bind_some, nI_clamp (by omega)]
  rfl
theorem sr_notin {S : List Nat} {n : Nat} (h : n ∉ S) : sr n ∉ S.map sr := by
  intro hm
  obtain ⟨a, ha, e⟩ := List.mem_map.mp hm
  rw [sr_inj e] at ha
  exact h ha
theorem qd_enter {nm : Nat → Int64} {se ta : Nat → Int32} {nr : Nat → Int64} {nrs : Int32} {sw : Nat → Int64} {sws sz la : Int32} {N : List (List Nat)} {S : List Nat} {T : List Int32} {L : Nat} (h : DR nm se ta nr nrs sw sws sz la N S T L) (hA : AI N S T L) {s : List Nat} (hs : vd s) (hn : s ∉ N) (hl : N.length < 24) (x : Int32) : ∃ nm' se' ta' nr' nrs' sw' sws', m_Directory_enter (lN (rk 7 s)) x nm se ta nr nrs sw sws sz la = some (nI (L + 1), nm', se', ta', nr', nrs', sw', sws', nI (N ++ [s]).length, nI (L + 1)) ∧ DR nm' se' ta' nr' nrs' sw' sws' (nI (N ++ [s]).length) (nI (L + 1)) (N ++ [s]) (S ++ [L + 1]) (T ++ [x]) (L + 1) := by
  obtain ⟨h1, h2, h3, h4, h5, h6, h7⟩ := h
  obtain ⟨a1, a2, a3, a4, a5, a6, a7, a8⟩ := hA
  have hLn : L + 1 ∉ S := fun hm => by have := (a7 _ hm).2; omega
  obtain ⟨nr', nrs', e1, k1⟩ := h4.ins hs hn hl
  obtain ⟨sw', sws', e2, k2⟩ := h5.ins (sr_vd (n := L + 1) (by omega)) (sr_notin hLn) (by rw [List.length_map]; omega)
  subst h6 h7
  have hc : nI N.length < 24 := nI_lt (b := 24) hl (by decide)
  refine ⟨vp_updL nm N.length (lN (rk 7 s)), upd se N.length (nI (L + 1)), upd ta N.length x, nr', nrs', sw', sws', ?_, arr_snL h1 s rfl, by rw [← a2]; exact arr_snI h2 (L + 1) rfl, by rw [← a3]; exact arr_snI h3 x rfl, k1, by rw [List.map_append]; exact k2, rfl, rfl⟩
  unfold m_Directory_enter m_Directory_hasMostEntries
  rw [if_pos hc, Option.bind_some, if_pos rfl, if_neg (nI_in hl (by decide)), if_neg (nI_in hl (by decide)), if_neg (nI_in hl (by decide)), e1, Option.bind_some, nI_1, qc_ser (by omega), Option.bind_some, e2, Option.bind_some, nI_clamp (by omega), nI_1, List.length_append]
  rfl
theorem qd_drop {nm : Nat → Int64} {se ta : Nat → Int32} {nr : Nat → Int64} {nrs : Int32} {sw : Nat → Int64} {sws sz la : Int32} {N : List (List Nat)} {S : List Nat} {T : List Int32} {L : Nat} (h : DR nm se ta nr nrs sw sws sz la N S T L) (hA : AI N S T L) {j : Nat} (hj : j < N.length) : ∃ nm' se' ta' nr' nrs' sw' sws', m_Directory_drop (nI j) nm se ta nr nrs sw sws sz = some (nm', se', ta', nr', nrs', sw', sws', nI (N.eraseIdx j).length) ∧ DR nm' se' ta' nr' nrs' sw' sws' (nI (N.eraseIdx j).length) la (N.eraseIdx j) (S.eraseIdx j) (T.eraseIdx j) L := by
  obtain ⟨h1, h2, h3, h4, h5, h6, h7⟩ := h
  obtain ⟨a1, a2, a3, a4, a5, a6, a7, a8⟩ := hA
  obtain ⟨s, hs⟩ := get_ex hj
  obtain ⟨b, hb⟩ := get_ex (show j < S.length by omega)
  have hb2 := a7 b (get_mem hb)
  obtain ⟨nr', nrs', e1, k1⟩ := h4.take (get_mem hs) (perm_er hs)
  have hm : (S.map sr)[j]? = some (sr b) := by rw [List.getElem?_map, hb]; rfl
  have hpe : (sr b :: (S.eraseIdx j).map sr).Perm (S.map sr) := (perm_er hb).map sr
  obtain ⟨sw', sws', e2, k2⟩ := h5.take (get_mem hm) hpe
  subst h6
  have hl1 : (N.eraseIdx j).length = N.length - 1 := by rw [List.length_eraseIdx, if_pos hj]
  have e0 : nI N.length - 1 = nI (N.length - 1) := pk_sub (b := 1) (by omega)
  have g1 : nm j = lN (rk 7 s) := h1 j s hs
  have g2 : se j = nI b := h2 j b hb
  refine ⟨va_cpy nm nm (j + 1) j (N.length - 1 - j), va_cpy se se (j + 1) j (N.length - 1 - j), va_cpy ta ta (j + 1) j (N.length - 1 - j), nr', nrs', sw', sws', ?_, arr_er h1 hj, by rw [← a2]; exact arr_er h2 (by omega), by rw [← a3]; exact arr_er h3 (by omega), k1, k2, rfl, h7⟩
  have cc := cpyOK (sp := j + 1) (dp := j) (n := N.length - 1 - j) (N := 24) (M := 24) (by omega) (by omega) (by decide) (by decide)
  unfold m_Directory_drop
  rw [if_neg (nI_in (by omega) (by decide)), nI_clamp (show j < 2 ^ 31 by omega), g1, e1, Option.bind_some, if_neg (nI_in' (show j < 24 by omega) (by decide)), g2, qc_ser (by omega), Option.bind_some, e2, Option.bind_some, nI_1, e0, pk_sub (show j ≤ N.length - 1 by omega), nI_clamp (show j + 1 < 2 ^ 31 by omega), nI_clamp (show N.length - 1 - j < 2 ^ 31 by omega), hl1]
  rw [nI_clamp (show j < 2 ^ 31 by omega), nI_clamp (show j + 1 < 2 ^ 31 by omega), nI_clamp (show N.length - 1 - j < 2 ^ 31 by omega)] at cc
  rw [if_neg cc, if_neg cc, if_neg cc]
theorem qd_giveN {nm : Nat → Int64} {se ta : Nat → Int32} {nr : Nat → Int64} {nrs : Int32} {sw : Nat → Int64} {sws sz la : Int32} {N : List (List Nat)} {S : List Nat} {T : List Int32} {L : Nat} (h : DR nm se ta nr nrs sw sws sz la N S T L) (hA : AI N S T L) {j : Nat} (hj : j < N.length) {s : List Nat} (hs : vd s) (hn : s ∉ N) : ∃ nm' nr' nrs', m_Directory_giveName (nI j) (lN (rk 7 s)) nm nr nrs = some (nm', nr', nrs') ∧ DR nm' se ta nr' nrs' sw sws sz la (N.set j s) S T L ∧ RS nr' nrs' (N.eraseIdx j ++ [s]) := by
  obtain ⟨h1, h2, h3, h4, h5, h6, h7⟩ := h
  obtain ⟨a1, a2, a3, a4, a5, a6, a7, a8⟩ := hA
  obtain ⟨t, ht⟩ := get_ex hj
  obtain ⟨f1, z1, e1, k1⟩ := h4.take (get_mem ht) (perm_er ht)
  have hl1 : (N.eraseIdx j).length = N.length - 1 := by rw [List.length_eraseIdx, if_pos hj]
  obtain ⟨f2, z2, e2, k2⟩ := k1.ins hs (fun hm => hn ((List.eraseIdx_sublist N j).mem hm)) (by omega)
  have hpm : (N.eraseIdx j ++ [s]).Perm (N.set j s) := by
    have q1 : (N.set j s)[j]? = some s := by rw [List.getElem?_set, if_pos rfl, if_pos hj]
    have q2 := perm_er q1
    have q3 : (N.set j s).eraseIdx j = N.eraseIdx j := by
      apply List.ext_getElem?
      intro i
      rw [List.getElem?_eraseIdx, List.getElem?_eraseIdx]
      split
      · rw [List.getElem?_set, if_neg (by omega)]
      · rw [List.getElem?_set, if_neg (by omega)]
    rw [q3] at q2
    exact (List.perm_append_singleton s _).trans q2
  have g1 : nm j = lN (rk 7 t) := h1 j t ht
  refine ⟨vp_updL nm j (lN (rk 7 s)), f2, z2, ?_, ⟨arr_setL h1 j s rfl, h2, h3, ?_, h5, by rw [List.length_set]; exact h6, h7⟩, k2⟩
  · unfold m_Directory_giveName
    rw [if_neg (nI_in (by omega) (by decide)), nI_clamp (show j < 2 ^ 31 by omega), g1, e1, Option.bind_some, e2, Option.bind_some, if_neg (nI_in' (show j < 24 by omega) (by decide))]
  · obtain ⟨R, r1, r2, r3⟩ := k2
    exact ⟨R, r1, r2.trans hpm, r3⟩
