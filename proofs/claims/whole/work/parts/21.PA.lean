/-! The calls that change: system and reference side by side. -/
theorem thr_r {α β : Type} (r : α) (f : α → Option (String ⊕ β)) : thr (some (.inr r)) f = f r := rfl
theorem thr_l {α β : Type} (E : String) (f : α → Option (String ⊕ β)) : thr (some (.inl E)) f = some (.inl E) := rfl
theorem rq1 : m_L_requirePower 1 = some (.inr ()) := by
  unfold m_L_requirePower m_Power_isSupplied
  rw [Option.bind_some, if_neg (by decide)]
theorem rq0 : m_L_requirePower 0 = some (.inl "java/lang/IllegalStateException") := by
  unfold m_L_requirePower m_Power_isSupplied
  rw [Option.bind_some, if_pos rfl]
theorem rf00 : m_M_refused 0 0 = some (0, 0) := by decide
theorem rf01 : m_M_refused 0 1 = some (1, 1) := by decide
theorem rf10 : m_M_refused 1 0 = some (1, 2) := by decide
theorem rf11 : m_M_refused 1 1 = some (1, 1) := by decide
/-- the two states' entries -/
def KR (nm : Nat → Int64) (se ta : Nat → Int32) (nr : Nat → Int64) (nrs : Int32) (sw : Nat → Int64) (sws sz la : Int32) (ct : Int32) (nm2 : Nat → Int64) (le2 se2 ta2 : Nat → Int32) (la2 : Int32) (k : Nat) : Prop :=
  ∃ N S T L, DR nm se ta nr nrs sw sws sz la N S T L ∧ MR ct nm2 le2 se2 ta2 la2 N S T L ∧ AI N S T L ∧ L ≤ k
theorem AI_add {N : List (List Nat)} {S : List Nat} {T : List Int32} {L : Nat} (h : AI N S T L) {s : List Nat} (hs : vd s) (hs0 : s ≠ []) (hn : s ∉ N) (hl : N.length < 24) (hL : L < 600) (x : Int32) : AI (N ++ [s]) (S ++ [L + 1]) (T ++ [x]) (L + 1) := by
  obtain ⟨a1, a2, a3, a4, a5, a6, a7, a8⟩ := h
  refine ⟨?_, ?_, ?_, nd_snoc a4 hn, ?_, ?_, ?_, by omega⟩
  · rw [List.length_append, List.length_singleton]; omega
  · rw [List.length_append, List.length_append, a2]; rfl
  · rw [List.length_append, List.length_append, a3]; rfl
  · intro a ha
    rcases List.mem_append.mp ha with h1 | h1
    · exact a5 a h1
    · rw [List.mem_singleton] at h1
      rw [h1]; exact ⟨hs, hs0⟩
  · rw [List.pairwise_append]
    refine ⟨a6, by simp, ?_⟩
    intro a ha b hb
    rw [List.mem_singleton] at hb
    have := (a7 a ha).2
    omega
  · intro a ha
    rcases List.mem_append.mp ha with h1 | h1
    · have := a7 a h1; omega
    · rw [List.mem_singleton] at h1
      omega
theorem AI_rem {N : List (List Nat)} {S : List Nat} {T : List Int32} {L : Nat} (h : AI N S T L) {j : Nat} (hj : j < N.length) : AI (N.eraseIdx j) (S.eraseIdx j) (T.eraseIdx j) L := by
  obtain ⟨a1, a2, a3, a4, a5, a6, a7, a8⟩ := h
  refine ⟨?_, ?_, ?_, a4.sublist (List.eraseIdx_sublist N j), fun a ha => a5 a ((List.eraseIdx_sublist N j).mem ha), a6.sublist (List.eraseIdx_sublist S j), fun a ha => a7 a ((List.eraseIdx_sublist S j).mem ha), a8⟩
  · rw [List.length_eraseIdx, if_pos hj]; omega
  · rw [List.length_eraseIdx, List.length_eraseIdx, if_pos hj, if_pos (by omega)]; omega
  · rw [List.length_eraseIdx, List.length_eraseIdx, if_pos hj, if_pos (by omega)]; omega
theorem set_perm {N : List (List Nat)} {j : Nat} (hj : j < N.length) (s : List Nat) : (N.eraseIdx j ++ [s]).Perm (N.set j s) := by
  have q1 : (N.set j s)[j]? = some s := by rw [List.getElem?_set, if_pos rfl, if_pos hj]
  have q2 := perm_er q1
  have q3 : (N.set j s).eraseIdx j = N.eraseIdx j := by
    apply List.ext_getElem?
    intro i
    rw [List.getElem?_eraseIdx, List.getElem?_eraseIdx]
    split
    · rw [List.getElem?_set, if_neg (by omega)]
    · rw [List.getElem?_set, if_neg (by omega)]
  rw [q3] at q2
  exact (List.perm_append_singleton s _).trans q2
theorem AI_ren {N : List (List Nat)} {S : List Nat} {T : List Int32} {L : Nat} (h : AI N S T L) {j : Nat} (hj : j < N.length) {s : List Nat} (hs : vd s) (hs0 : s ≠ []) (hn : s ∉ N) : AI (N.set j s) S T L := by
  obtain ⟨a1, a2, a3, a4, a5, a6, a7, a8⟩ := h
  refine ⟨by rw [List.length_set]; exact a1, by rw [List.length_set]; exact a2, by rw [List.length_set]; exact a3, ?_, ?_, a6, a7, a8⟩
  · apply (set_perm hj s).nodup
    exact nd_snoc (a4.sublist (List.eraseIdx_sublist N j)) (fun hm => hn ((List.eraseIdx_sublist N j).mem hm))
  · intro a ha
    rcases List.mem_or_eq_of_mem_set ha with h1 | h1
    · exact a5 a h1
    · rw [h1]; exact ⟨hs, hs0⟩
theorem st_add {nm : Nat → Int64} {se ta : Nat → Int32} {nr : Nat → Int64} {nrs : Int32} {sw : Nat → Int64} {sws sz la : Int32} (nmd : Nat → Int64) (sed tad : Nat → Int32) (nrd : Nat → Int64) (nrsd : Int32) (swd : Nat → Int64) (swsd szd lad : Int32)
    {ct : Int32} {nm2 : Nat → Int64} {le2 se2 ta2 : Nat → Int32} {la2 : Int32} {k : Nat} (hK : KR nm se ta nr nrs sw sws sz la ct nm2 le2 se2 ta2 la2 k) (hk : k < 600) {H : List Nat} (hH : vd H) (hH0 : H ≠ []) {left : Int32} (hl : (-1 : Int32) ≤ left)
    (rows : Int32) (F : Nat → Int64) (G : Nat → Int32) (pl : Int32) (f : Nat → Int64) (g : Nat → Int32) (x w : Int32) :
    ∃ ans nmd' sed' tad' nrd' nrsd' swd' swsd' szd' lad' su' lC' w' b ct' nm2' le2' se2' ta2' la2' rows' F' G' pl' f' g' off' lM', m_L_add x nm se ta nr nrs sw sws sz la nmd sed tad nrd nrsd swd swsd szd lad 1 left (lN (rk 7 H)) w = some (.inr (ans, nmd', sed', tad', nrd', nrsd', swd', swsd', szd', lad', su', lC', w', b))
      ∧ m_M_add x ct nm2 le2 se2 ta2 la2 (lN (pr H)) (nI H.length) rows F G pl f g 0 left w = some (ans, 0, ct', nm2', le2', se2', ta2', la2', rows', F', G', pl', f', g', off', lM', w') ∧ PR su' lC' off' lM'
      ∧ (b = false → KR nm se ta nr nrs sw sws sz la ct' nm2' le2' se2' ta2' la2' (k + 1)) ∧ (b = true → KR nmd' sed' tad' nrd' nrsd' swd' swsd' szd' lad' ct' nm2' le2' se2' ta2' la2' (k + 1)) := by
  obtain ⟨N, S, T, L, hD, hM, hA, hLk⟩ := hK
  have hD' := hD
  have hM' := hM
  obtain ⟨d1, d2, d3, d4, d5, d6, d7⟩ := hD'
  obtain ⟨b1, b2, b3, b4, b5⟩ := hM'
  obtain ⟨a1, a2, a3, a4, a5, a6, a7, a8⟩ := id hA
  have keep : ∀ {ct' nm2' le2' se2' ta2' la2'}, ct' = ct → nm2' = nm2 → le2' = le2 → se2' = se2 → ta2' = ta2 → la2' = la2 → KR nm se ta nr nrs sw sws sz la ct' nm2' le2' se2' ta2' la2' (k + 1) := by
    intro _ _ _ _ _ _ h1 h2 h3 h4 h5 h6
    subst h1 h2 h3 h4 h5 h6
    exact ⟨N, S, T, L, hD, hM, hA, by omega⟩
  unfold m_L_add m_M_add
  rw [rq1, thr_r, rf00, Option.bind_some, if_pos rfl]
  subst d6 b1
  rcases qd_ixN d1 (AI_v hA) a1 hH with ⟨j, hj, e1⟩ | ⟨hn, e1⟩
  · rcases qm_ixN b2 (AI_v hA) a1 hH with ⟨j2, hj2, e2⟩ | ⟨hn, e2⟩
    · have hjl := get_lt hj
      have hjl2 := get_lt hj2
      rw [e1, Option.bind_some, if_neg (nI_m1 (by omega)), e2, Option.bind_some, if_neg (nI_pos (by omega))]
      exact ⟨_, _, _, _, _, _, _, _, _, _, _, _, _, _, _, _, _, _, _, _, _, _, _, _, _, _, _, _, rfl, rfl, Or.inl ⟨rfl, rfl, rfl, hl⟩, fun _ => keep rfl rfl rfl rfl rfl rfl, fun h => by cases h⟩
    · exact absurd (get_mem hj) hn
  · rcases qm_ixN b2 (AI_v hA) a1 hH with ⟨j2, hj2, e2⟩ | ⟨-, e2⟩
    · exact absurd (get_mem hj2) hn
    · have m1 : (-1 : Int32) < 0 := by decide
      rw [e1, Option.bind_some, if_pos rfl, e2, Option.bind_some, if_pos m1]
      by_cases c : N.length = 24
      · have c1 : ¬ nI N.length < 24 := nI_nlt (b := 24) (by omega) (by omega)
        have c2 : nI N.length = 24 := by rw [c]; rfl
        unfold m_Directory_hasMostEntries
        rw [if_neg c1, Option.bind_some, if_neg (by decide), if_pos c2]
        exact ⟨_, _, _, _, _, _, _, _, _, _, _, _, _, _, _, _, _, _, _, _, _, _, _, _, _, _, _, _, rfl, rfl, Or.inl ⟨rfl, rfl, rfl, hl⟩, fun _ => keep rfl rfl rfl rfl rfl rfl, fun h => by cases h⟩
      · have c1 : nI N.length < 24 := nI_lt (b := 24) (by omega) (by omega)
        have c2 : ¬ nI N.length = 24 := fun h => c ((nI_eq (b := 24) (by omega) (by omega)).mp h)
        obtain ⟨nm3, se3, ta3, nr3, sw3, e3, hD3⟩ := qd_copy hD hA nmd sed tad nrd swd
        obtain ⟨nm4, se4, ta4, nr4, nrs4, sw4, sws4, e4, hD4⟩ := qd_enter hD3 hA hH hn (by omega) x
        obtain ⟨F1, G1, e7, k7⟩ := qm_ln b2 a1 (x := -1) (e := N.length) (Or.inr ⟨rfl, Nat.le_refl _⟩) F G
        rw [er_all] at e7 k7
        obtain ⟨F2, G2, e8, k8⟩ := qm_row k7 (by omega) H
        obtain ⟨-, -, -, ⟨R4, r1, r2, r3⟩, ⟨R5, r4, r5, r6⟩, -, -⟩ := id hD4
        have hA4 := AI_add hA hH hH0 hn (by omega) (by omega) x
        have hA41 := hA4.1
        have hA42 := hA4.2.1
        obtain ⟨n1, f1, g1, P1, hn1, p1, p2, p3⟩ := pg1 r1 r2 k8 (AI_v hA4) hA4.2.2.2.1 (by omega) hH f g
        obtain ⟨F3, G3, e9, k9⟩ := qm_ls (f := se2) b3 (AI_s hA) (by omega) (x := -1) (e := S.length) (Or.inr ⟨rfl, Nat.le_refl _⟩) F2 G2
        rw [er_all] at e9 k9
        obtain ⟨F4, G4, e10, k10⟩ := qm_row k9 (by rw [List.length_map]; omega) (sr (L + 1))
        have em : S.map sr ++ [sr (L + 1)] = (S ++ [L + 1]).map sr := by rw [List.map_append]; rfl
        rw [em] at e10 k10
        obtain ⟨n2, f2, g2, P2, hn2, p4, p5, p6⟩ := pg1 r4 r5 k10 (sr_all (AI_s hA4)) (nd_sr (AI_ns hA4)) (by rw [List.length_map]; omega) (sr_vd (n := L + 1) (by omega)) f1 g1
        obtain ⟨v, c1', F9, G9, c2', f9, g9, e5, e6⟩ := free_eq hD hA hM F4 G4 f2 g2
        obtain ⟨how, su', lC', off', lM', w', q1, q2, q3, q4⟩ := cg e5 e6 (n := n1 + n2) (by omega) hl (nI (L + 1)) w
        have e10' : m_M_row (lN (pr (sr (L + 1)))) 2 (nI (S.map sr).length) F3 G3 = some (nI ((S ++ [L + 1]).map sr).length, F4, G4) := e10
        have p6' : m_M_beginnings (lN (pr (sr (L + 1)))) 2 (lN (pr (sr (L + 1)))) 2 (nI P2.length) f2 g2 = some (nI n2) := p6
        rw [a2] at e9
        rw [← r3] at p1
        rw [← r6] at p4
        subst b5
        unfold m_Directory_hasMostEntries m_Directory_pagesOfName m_Directory_pagesOfSerial
        rw [if_pos c1, Option.bind_some, if_pos rfl, e3, Option.bind_some]
        dsimp only
        rw [e4, Option.bind_some]
        dsimp only
        rw [p1, Option.bind_some, Option.bind_some, qc_ser (by omega), Option.bind_some, p4, Option.bind_some, Option.bind_some, nI_add, q1, Option.bind_some]
        rw [if_neg c2, e7, Option.bind_some]
        dsimp only
        rw [e8, Option.bind_some]
        dsimp only
        rw [p2, Option.bind_some]
        dsimp only
        rw [p3, Option.bind_some, e9, Option.bind_some]
        dsimp only
        rw [nI_1, qm_ser (by omega), Option.bind_some, e10', Option.bind_some]
        dsimp only
        rw [p5, Option.bind_some, Option.bind_some, Option.bind_some]
        dsimp only
        rw [p6', Option.bind_some, nI_add, q2, Option.bind_some]
        dsimp only
        rcases q3 with rfl | rfl | rfl
        · have z : (0 : Int32) ≤ 0 := by decide
          rw [if_pos z, if_neg (nI_in (by omega) (by decide)), if_neg (nI_in (by omega) (by decide)), if_neg (nI_in (by omega) (by decide)), if_neg (nI_in (by omega) (by decide)), if_pos rfl, nI_clamp (by omega), nI_1]
          refine ⟨_, _, _, _, _, _, _, _, _, _, _, _, _, _, _, _, _, _, _, _, _, _, _, _, _, _, _, _, rfl, rfl, q4, fun h => ?_, fun _ => ?_⟩
          · cases h
          · refine ⟨_, _, _, _, hD4, ⟨?_, aB_snoc b2 H, ?_, ?_, rfl⟩, hA4, by omega⟩
            · rw [List.length_append]; rfl
            · rw [← a2]; exact arr_snI b3 (L + 1) rfl
            · rw [← a3]; exact arr_snI b4 x rfl
        · have z : ¬ (0 : Int32) ≤ -2 := by decide
          rw [if_neg z]
          exact ⟨_, _, _, _, _, _, _, _, _, _, _, _, _, _, _, _, _, _, _, _, _, _, _, _, _, _, _, _, rfl, rfl, q4, fun _ => keep rfl rfl rfl rfl rfl rfl, fun h => by cases h⟩
        · have z : ¬ (0 : Int32) ≤ -3 := by decide
          rw [if_neg z]
          exact ⟨_, _, _, _, _, _, _, _, _, _, _, _, _, _, _, _, _, _, _, _, _, _, _, _, _, _, _, _, rfl, rfl, q4, fun _ => keep rfl rfl rfl rfl rfl rfl, fun h => by cases h⟩
