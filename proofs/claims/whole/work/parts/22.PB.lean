theorem st_rem {nm : Nat → Int64} {se ta : Nat → Int32} {nr : Nat → Int64} {nrs : Int32} {sw : Nat → Int64} {sws sz la : Int32} (nmd : Nat → Int64) (sed tad : Nat → Int32) (nrd : Nat → Int64) (nrsd : Int32) (swd : Nat → Int64) (swsd szd lad : Int32)
    {ct : Int32} {nm2 : Nat → Int64} {le2 se2 ta2 : Nat → Int32} {la2 : Int32} {k : Nat} (hK : KR nm se ta nr nrs sw sws sz la ct nm2 le2 se2 ta2 la2 k) {H : List Nat} (hH : vd H) {left : Int32} (hl : (-1 : Int32) ≤ left)
    (rows : Int32) (F : Nat → Int64) (G : Nat → Int32) (pl : Int32) (f : Nat → Int64) (g : Nat → Int32) (w : Int32) :
    ∃ ans nmd' sed' tad' nrd' nrsd' swd' swsd' szd' lad' su' lC' w' b ct' nm2' le2' se2' ta2' rows' F' G' pl' f' g' off' lM', m_L_remove nm se ta nr nrs sw sws sz la nmd sed tad nrd nrsd swd swsd szd lad 1 left (lN (rk 7 H)) w = some (.inr (ans, nmd', sed', tad', nrd', nrsd', swd', swsd', szd', lad', su', lC', w', b))
      ∧ m_M_remove ct nm2 le2 se2 ta2 (lN (pr H)) (nI H.length) rows F G pl f g 0 left w = some (ans, 0, ct', nm2', le2', se2', ta2', rows', F', G', pl', f', g', off', lM', w') ∧ PR su' lC' off' lM'
      ∧ (b = false → KR nm se ta nr nrs sw sws sz la ct' nm2' le2' se2' ta2' la2 k) ∧ (b = true → KR nmd' sed' tad' nrd' nrsd' swd' swsd' szd' lad' ct' nm2' le2' se2' ta2' la2 k) := by
  obtain ⟨N, S, T, L, hD, hM, hA, hLk⟩ := hK
  have hD' := hD
  have hM' := hM
  obtain ⟨d1, d2, d3, d4, d5, d6, d7⟩ := hD'
  obtain ⟨b1, b2, b3, b4, b5⟩ := hM'
  obtain ⟨a1, a2, a3, a4, a5, a6, a7, a8⟩ := id hA
  have keep : ∀ {ct' nm2' le2' se2' ta2'}, ct' = ct → nm2' = nm2 → le2' = le2 → se2' = se2 → ta2' = ta2 → KR nm se ta nr nrs sw sws sz la ct' nm2' le2' se2' ta2' la2 k := by
    intro _ _ _ _ _ h1 h2 h3 h4 h5
    subst h1 h2 h3 h4 h5
    exact ⟨N, S, T, L, hD, hM, hA, hLk⟩
  unfold m_L_remove m_M_remove
  rw [rq1, thr_r, rf00, Option.bind_some, if_pos rfl]
  subst d6 b1
  have m1 : (-1 : Int32) < 0 := by decide
  have m2 : ¬ (0 : Int32) ≤ -1 := by decide
  rcases qd_ixN d1 (AI_v hA) a1 hH with ⟨j, hj, e1⟩ | ⟨hn, e1⟩
  · rcases qm_ixN b2 (AI_v hA) a1 hH with ⟨j2, hj2, e2⟩ | ⟨hn, e2⟩
    · have ej := nd_ix a4 hj hj2
      subst ej
      have hjl := get_lt hj
      obtain ⟨b, hb⟩ := get_ex (show j < S.length by omega)
      have hbs := AI_s hA b (get_mem hb)
      have g1 : se j = nI b := d2 j b hb
      have g2 : se2 j = nI b := b3 j b hb
      have bj := nI_in (c := j) (N := 24) (by omega) (by decide)
      obtain ⟨nm3, se3, ta3, nr3, sw3, e3, hD3⟩ := qd_copy hD hA nmd sed tad nrd swd
      obtain ⟨nm4, se4, ta4, nr4, nrs4, sw4, sws4, e4, hD4⟩ := qd_drop hD3 hA hjl
      obtain ⟨F1, G1, e7, k7⟩ := qm_ln b2 a1 (x := nI j) (e := j) (Or.inl ⟨rfl, by omega⟩) F G
      obtain ⟨-, -, -, ⟨R4, r1, r2, r3⟩, ⟨R5, r4, r5, r6⟩, -, -⟩ := id hD4
      have hA4 := AI_rem hA hjl
      have hA41 := hA4.1
      have hA42 := hA4.2.1
      obtain ⟨n1, f1, g1', P1, hn1, p1, p2, p3⟩ := pg1 r1 r2 k7 (AI_v hA4) hA4.2.2.2.1 (by omega) hH f g
      obtain ⟨F3, G3, e9, k9⟩ := qm_ls (f := se2) b3 (AI_s hA) (by omega) (x := nI j) (e := j) (Or.inl ⟨rfl, by omega⟩) F1 G1
      obtain ⟨n2, f2, g2', P2, hn2, p4, p5, p6⟩ := pg1 r4 r5 k9 (sr_all (AI_s hA4)) (nd_sr (AI_ns hA4)) (by rw [List.length_map]; omega) (sr_vd (n := b) hbs) f1 g1'
      obtain ⟨v, c1', F9, G9, c2', f9, g9, e5, e6⟩ := free_eq hD hA hM F3 G3 f2 g2'
      obtain ⟨how, su', lC', off', lM', w', q1, q2, q3, q4⟩ := cg e5 e6 (n := n1 + n2) (by omega) hl (nI b) w
      have p6' : m_M_beginnings (lN (pr (sr b))) 2 (lN (pr (sr b))) 2 (nI P2.length) f2 g2' = some (nI n2) := p6
      rw [a2] at e9
      rw [← r3] at p1
      rw [← r6] at p4
      have e0 : nI N.length - 1 = nI (N.length - 1) := pk_sub (b := 1) (by omega)
      obtain ⟨f5, g5, se5, ta5, e11, x1, x2, x3, x4⟩ := qm_rm_l a1 a2 a3 hjl 100 j nm2 le2 se2 ta2 (Nat.le_refl _) (by omega) (by omega) (shf_0 (fun i a h => (b2 i a h).1) j) (shf_0 (fun i a h => (b2 i a h).2) j) (shf_0 b3 j) (shf_0 b4 j)
      unfold m_Directory_serialAt m_Directory_pagesOfName m_Directory_pagesOfSerial
      rw [e1, Option.bind_some, if_neg (nI_m1 (by omega)), if_neg bj, nI_clamp (by omega), g1, Option.bind_some, e3, Option.bind_some]
      dsimp only
      rw [e4, Option.bind_some]
      dsimp only
      rw [p1, Option.bind_some, Option.bind_some, qc_ser hbs, Option.bind_some, p4, Option.bind_some, Option.bind_some, nI_add, q1, Option.bind_some]
      rw [e2, Option.bind_some, if_pos (nI_pos' (by omega)), if_neg bj, e7, Option.bind_some]
      dsimp only
      rw [p2, Option.bind_some]
      dsimp only
      rw [p3, Option.bind_some, e9, Option.bind_some]
      dsimp only
      rw [p5, Option.bind_some]
      dsimp only
      rw [nI_clamp (show j < 2 ^ 31 by omega), g2, qm_ser hbs, Option.bind_some, Option.bind_some, p6', Option.bind_some, nI_add, q2, Option.bind_some]
      dsimp only
      rcases q3 with rfl | rfl | rfl
      · have z : (0 : Int32) ≤ 0 := by decide
        rw [if_pos z, if_pos rfl, e0, e11, Option.bind_some]
        refine ⟨_, _, _, _, _, _, _, _, _, _, _, _, _, _, _, _, _, _, _, _, _, _, _, _, _, _, _, rfl, rfl, q4, fun h => ?_, fun _ => ?_⟩
        · cases h
        · refine ⟨_, _, _, _, hD4, ⟨?_, fun i a h => ⟨x1 i a h, x2 i a h⟩, x3, x4, b5⟩, hA4, hLk⟩
          rw [List.length_eraseIdx, if_pos hjl]
      · have z : ¬ (0 : Int32) ≤ -2 := by decide
        rw [if_neg z]
        exact ⟨_, _, _, _, _, _, _, _, _, _, _, _, _, _, _, _, _, _, _, _, _, _, _, _, _, _, _, rfl, rfl, q4, fun _ => keep rfl rfl rfl rfl rfl, fun h => by cases h⟩
      · have z : ¬ (0 : Int32) ≤ -3 := by decide
        rw [if_neg z]
        exact ⟨_, _, _, _, _, _, _, _, _, _, _, _, _, _, _, _, _, _, _, _, _, _, _, _, _, _, _, rfl, rfl, q4, fun _ => keep rfl rfl rfl rfl rfl, fun h => by cases h⟩
    · exact absurd (get_mem hj) hn
  · rcases qm_ixN b2 (AI_v hA) a1 hH with ⟨j2, hj2, e2⟩ | ⟨-, e2⟩
    · exact absurd (get_mem hj2) hn
    · rw [e1, Option.bind_some, if_pos rfl, e2, Option.bind_some, if_neg m2]
      exact ⟨_, _, _, _, _, _, _, _, _, _, _, _, _, _, _, _, _, _, _, _, _, _, _, _, _, _, _, rfl, rfl, Or.inl ⟨rfl, rfl, rfl, hl⟩, fun _ => keep rfl rfl rfl rfl rfl, fun h => by cases h⟩
theorem st_rep {nm : Nat → Int64} {se ta : Nat → Int32} {nr : Nat → Int64} {nrs : Int32} {sw : Nat → Int64} {sws sz la : Int32} (nmd : Nat → Int64) (sed tad : Nat → Int32) (nrd : Nat → Int64) (nrsd : Int32) (swd : Nat → Int64) (swsd szd lad : Int32)
    {ct : Int32} {nm2 : Nat → Int64} {le2 se2 ta2 : Nat → Int32} {la2 : Int32} {k : Nat} (hK : KR nm se ta nr nrs sw sws sz la ct nm2 le2 se2 ta2 la2 k) {H : List Nat} (hH : vd H) {left : Int32} (hl : (-1 : Int32) ≤ left)
    (rows : Int32) (F : Nat → Int64) (G : Nat → Int32) (pl : Int32) (f : Nat → Int64) (g : Nat → Int32) (x w : Int32) :
    ∃ ans nmd' sed' tad' nrd' nrsd' swd' swsd' szd' lad' su' lC' w' b ta2' rows' F' G' pl' f' g' off' lM', m_L_replace x nm se ta nr nrs sw sws sz la nmd sed tad nrd nrsd swd swsd szd lad 1 left (lN (rk 7 H)) w = some (.inr (ans, nmd', sed', tad', nrd', nrsd', swd', swsd', szd', lad', su', lC', w', b))
      ∧ m_M_replace x ct nm2 le2 se2 ta2 (lN (pr H)) (nI H.length) rows F G pl f g 0 left w = some (ans, 0, ta2', rows', F', G', pl', f', g', off', lM', w') ∧ PR su' lC' off' lM'
      ∧ (b = false → KR nm se ta nr nrs sw sws sz la ct nm2 le2 se2 ta2' la2 k) ∧ (b = true → KR nmd' sed' tad' nrd' nrsd' swd' swsd' szd' lad' ct nm2 le2 se2 ta2' la2 k) := by
  obtain ⟨N, S, T, L, hD, hM, hA, hLk⟩ := hK
  have hD' := hD
  have hM' := hM
  obtain ⟨d1, d2, d3, d4, d5, d6, d7⟩ := hD'
  obtain ⟨b1, b2, b3, b4, b5⟩ := hM'
  obtain ⟨a1, a2, a3, a4, a5, a6, a7, a8⟩ := id hA
  have keep : ∀ {ta2'}, ta2' = ta2 → KR nm se ta nr nrs sw sws sz la ct nm2 le2 se2 ta2' la2 k := by
    intro _ h5
    subst h5
    exact ⟨N, S, T, L, hD, hM, hA, hLk⟩
  unfold m_L_replace m_M_replace
  rw [rq1, thr_r, rf00, Option.bind_some, if_pos rfl]
  subst d6 b1
  have m2 : ¬ (0 : Int32) ≤ -1 := by decide
  rcases qd_ixN d1 (AI_v hA) a1 hH with ⟨j, hj, e1⟩ | ⟨hn, e1⟩
  · rcases qm_ixN b2 (AI_v hA) a1 hH with ⟨j2, hj2, e2⟩ | ⟨hn, e2⟩
    · have ej := nd_ix a4 hj hj2
      subst ej
      have hjl := get_lt hj
      obtain ⟨b, hb⟩ := get_ex (show j < S.length by omega)
      have g1 : se j = nI b := d2 j b hb
      have g2 : se2 j = nI b := b3 j b hb
      have bj := nI_in (c := j) (N := 24) (by omega) (by decide)
      obtain ⟨nm3, se3, ta3, nr3, sw3, e3, hD3⟩ := qd_copy hD hA nmd sed tad nrd swd
      obtain ⟨D1, D2, D3, ⟨R4, r1, r2, r3⟩, D5, D6, D7⟩ := id hD3
      obtain ⟨F1, G1, e7, k7⟩ := qm_ln b2 a1 (x := -1) (e := N.length) (Or.inr ⟨rfl, Nat.le_refl _⟩) F G
      rw [er_all] at e7 k7
      obtain ⟨n1, f1, g1', P1, hn1, p1, p2, p3⟩ := pg1 r1 r2 k7 (AI_v hA) a4 (by omega) hH f g
      obtain ⟨v, c1', F9, G9, c2', f9, g9, e5, e6⟩ := free_eq hD hA hM F1 G1 f1 g1'
      obtain ⟨how, su', lC', off', lM', w', q1, q2, q3, q4⟩ := cg e5 e6 (n := n1) (by omega) hl (nI b) w
      rw [← r3] at p1
      have hA4 : AI N S (T.set j x) L := ⟨a1, a2, by rw [List.length_set]; exact a3, a4, a5, a6, a7, a8⟩
      unfold m_Directory_serialAt m_Directory_pagesOfName m_Directory_giveTarget
      rw [e1, Option.bind_some, if_neg (nI_m1 (by omega)), e3, Option.bind_some]
      dsimp only
      rw [if_neg bj, Option.bind_some, p1, Option.bind_some, Option.bind_some, if_neg bj, Option.bind_some, nI_clamp (show j < 2 ^ 31 by omega), g1, q1, Option.bind_some]
      rw [e2, Option.bind_some, if_pos (nI_pos' (by omega)), e7, Option.bind_some]
      dsimp only
      rw [p2, Option.bind_some]
      dsimp only
      rw [p3, Option.bind_some, q2, Option.bind_some]
      dsimp only
      rcases q3 with rfl | rfl | rfl
      · have z : (0 : Int32) ≤ 0 := by decide
        rw [if_pos z, if_neg bj, if_neg bj, nI_clamp (show j < 2 ^ 31 by omega), g2, if_pos rfl]
        refine ⟨_, _, _, _, _, _, _, _, _, _, _, _, _, _, _, _, _, _, _, _, _, _, _, rfl, rfl, q4, fun h => ?_, fun _ => ?_⟩
        · cases h
        · exact ⟨N, S, T.set j x, L, ⟨D1, D2, arr_setI D3 j x rfl, ⟨R4, r1, r2, r3⟩, D5, rfl, D7⟩, ⟨rfl, b2, b3, arr_setI b4 j x rfl, b5⟩, hA4, hLk⟩
      · have z : ¬ (0 : Int32) ≤ -2 := by decide
        rw [if_neg z]
        exact ⟨_, _, _, _, _, _, _, _, _, _, _, _, _, _, _, _, _, _, _, _, _, _, _, rfl, rfl, q4, fun _ => keep rfl, fun h => by cases h⟩
      · have z : ¬ (0 : Int32) ≤ -3 := by decide
        rw [if_neg z]
        exact ⟨_, _, _, _, _, _, _, _, _, _, _, _, _, _, _, _, _, _, _, _, _, _, _, rfl, rfl, q4, fun _ => keep rfl, fun h => by cases h⟩
    · exact absurd (get_mem hj) hn
  · rcases qm_ixN b2 (AI_v hA) a1 hH with ⟨j2, hj2, e2⟩ | ⟨-, e2⟩
    · exact absurd (get_mem hj2) hn
    · rw [e1, Option.bind_some, if_pos rfl, e2, Option.bind_some, if_neg m2]
      exact ⟨_, _, _, _, _, _, _, _, _, _, _, _, _, _, _, _, _, _, _, _, _, _, _, rfl, rfl, Or.inl ⟨rfl, rfl, rfl, hl⟩, fun _ => keep rfl, fun h => by cases h⟩
theorem st_ren {nm : Nat → Int64} {se ta : Nat → Int32} {nr : Nat → Int64} {nrs : Int32} {sw : Nat → Int64} {sws sz la : Int32} (nmd : Nat → Int64) (sed tad : Nat → Int32) (nrd : Nat → Int64) (nrsd : Int32) (swd : Nat → Int64) (swsd szd lad : Int32)
    {ct : Int32} {nm2 : Nat → Int64} {le2 se2 ta2 : Nat → Int32} {la2 : Int32} {k : Nat} (hK : KR nm se ta nr nrs sw sws sz la ct nm2 le2 se2 ta2 la2 k) {H : List Nat} (hH : vd H) (hH0 : H ≠ []) {left : Int32} (hl : (-1 : Int32) ≤ left)
    (rows : Int32) (F : Nat → Int64) (G : Nat → Int32) (pl : Int32) (f : Nat → Int64) (g : Nat → Int32) (x w : Int32) :
    (m_L_rename x nm se ta nr nrs sw sws sz la nmd sed tad nrd nrsd swd swsd szd lad 1 left (lN (rk 7 H)) w = some (.inl "java/util/NoSuchElementException") ∧ m_M_rename x ct nm2 le2 se2 (lN (pr H)) (nI H.length) rows F G pl f g 0 left w = some (0, 2, nm2, le2, rows, F, G, pl, f, g, 0, left, w)) ∨
    ∃ ans nmd' sed' tad' nrd' nrsd' swd' swsd' szd' lad' su' lC' w' b nm2' le2' rows' F' G' pl' f' g' off' lM', m_L_rename x nm se ta nr nrs sw sws sz la nmd sed tad nrd nrsd swd swsd szd lad 1 left (lN (rk 7 H)) w = some (.inr (ans, nmd', sed', tad', nrd', nrsd', swd', swsd', szd', lad', su', lC', w', b))
      ∧ m_M_rename x ct nm2 le2 se2 (lN (pr H)) (nI H.length) rows F G pl f g 0 left w = some (ans, 0, nm2', le2', rows', F', G', pl', f', g', off', lM', w') ∧ PR su' lC' off' lM'
      ∧ (b = false → KR nm se ta nr nrs sw sws sz la ct nm2' le2' se2 ta2 la2 k) ∧ (b = true → KR nmd' sed' tad' nrd' nrsd' swd' swsd' szd' lad' ct nm2' le2' se2 ta2 la2 k) := by
  obtain ⟨N, S, T, L, hD, hM, hA, hLk⟩ := hK
  have hD' := hD
  have hM' := hM
  obtain ⟨d1, d2, d3, d4, d5, d6, d7⟩ := hD'
  obtain ⟨b1, b2, b3, b4, b5⟩ := hM'
  obtain ⟨a1, a2, a3, a4, a5, a6, a7, a8⟩ := id hA
  have keep : ∀ {nm2' le2'}, nm2' = nm2 → le2' = le2 → KR nm se ta nr nrs sw sws sz la ct nm2' le2' se2 ta2 la2 k := by
    intro _ _ h4 h5
    subst h4 h5
    exact ⟨N, S, T, L, hD, hM, hA, hLk⟩
  unfold m_L_rename m_M_rename
  rw [rq1, thr_r]
  subst d6 b1
  have m1 : (-1 : Int32) < 0 := by decide
  have m2 : ¬ (0 : Int32) ≤ -1 := by decide
  have s1 := qd_ixS d2 (by omega) x
  have s2 := qm_ixS b3 (by omega) x
  rw [a2] at s1 s2
  rcases s1 with ⟨j, b, hb, hbx, e1⟩ | ⟨hn, e1⟩
  · rcases s2 with ⟨j2, b', hb', hbx', e2⟩ | ⟨hn, e2⟩
    · have hbs := AI_s hA b (get_mem hb)
      have hbs' := AI_s hA b' (get_mem hb')
      have ebb : b = b' := (nI_eq (by omega) (by omega)).mp (hbx.trans hbx'.symm)
      subst ebb
      have ej := nd_ix (AI_ns hA) hb hb'
      subst ej
      have hjl := get_lt hb
      have hjl2 : j < N.length := by omega
      right
      rw [e1, Option.bind_some, if_neg (nI_m1 (by omega)), e2, Option.bind_some, if_pos (nI_pos' (by omega)), rf00, Option.bind_some, if_pos rfl]
      rcases qd_ixN d1 (AI_v hA) a1 hH with ⟨i, hi, e3⟩ | ⟨hn, e3⟩
      · rcases qm_ixN b2 (AI_v hA) a1 hH with ⟨i2, hi2, e4⟩ | ⟨hn, e4⟩
        · have hil := get_lt hi
          have hil2 := get_lt hi2
          rw [e3, Option.bind_some, if_neg (nI_m1 (by omega)), e4, Option.bind_some, if_neg (nI_pos (by omega))]
          exact ⟨_, _, _, _, _, _, _, _, _, _, _, _, _, _, _, _, _, _, _, _, _, _, _, _, rfl, rfl, Or.inl ⟨rfl, rfl, rfl, hl⟩, fun _ => keep rfl rfl, fun h => by cases h⟩
        · exact absurd (get_mem hi) hn
      · rcases qm_ixN b2 (AI_v hA) a1 hH with ⟨i2, hi2, e4⟩ | ⟨-, e4⟩
        · exact absurd (get_mem hi2) hn
        · obtain ⟨t, ht⟩ := get_ex hjl2
          have vt := AI_v hA t (get_mem ht)
          have hts : t ≠ H := fun e => hn (by rw [← e]; exact get_mem ht)
          have g1 : nm j = lN (rk 7 t) := d1 j t ht
          have g2 := b2 j t ht
          have bj := nI_in (c := j) (N := 24) (by omega) (by decide)
          have bj' := nI_in' (c := j) (N := 24) (by omega) (by decide)
          obtain ⟨nm3, se3, ta3, nr3, sw3, e5, hD3⟩ := qd_copy hD hA nmd sed tad nrd swd
          obtain ⟨nm4, nr4, nrs4, e6, hD4, ⟨R4, r1, r2, r3⟩⟩ := qd_giveN hD3 hA hjl2 hH hn
          obtain ⟨-, -, -, -, ⟨R5, r4, r5, r6⟩, -, -⟩ := id hD3
          obtain ⟨F1, G1, e7, k7⟩ := qm_ln b2 a1 (x := nI j) (e := j) (Or.inl ⟨rfl, by omega⟩) F G
          have hl1 : (N.eraseIdx j).length = N.length - 1 := by rw [List.length_eraseIdx, if_pos hjl2]
          obtain ⟨F2, G2, e8, k8⟩ := qm_row k7 (by omega) H
          have hA4 := AI_ren hA hjl2 hH hH0 hn
          have hpm := set_perm hjl2 H
          obtain ⟨n1, f1, g1', P1, hn1, p1, p2, p3⟩ := pg2 r1 r2 k8 (fun a ha => AI_v hA4 a (hpm.mem_iff.mp ha)) (hpm.symm.nodup hA4.2.2.2.1) (by rw [List.length_append, List.length_singleton]; omega) hH vt hts f g
          obtain ⟨F3, G3, e9, k9⟩ := qm_ls (f := se2) b3 (AI_s hA) (by omega) (x := -1) (e := S.length) (Or.inr ⟨rfl, Nat.le_refl _⟩) F2 G2
          rw [er_all] at e9 k9
          obtain ⟨n2, f2, g2', P2, hn2, p4, p5, p6⟩ := pg1 r4 r5 k9 (sr_all (AI_s hA)) (nd_sr (AI_ns hA)) (by rw [List.length_map]; omega) (sr_vd (n := b) hbs) f1 g1'
          obtain ⟨v, c1', F9, G9, c2', f9, g9, e10, e11⟩ := free_eq hD hA hM F3 G3 f2 g2'
          obtain ⟨how, su', lC', off', lM', w', q1, q2, q3, q4⟩ := cg e10 e11 (n := n1 + n2) (by omega) hl x w
          have p6' : m_M_beginnings (lN (pr (sr b))) 2 (lN (pr (sr b))) 2 (nI P2.length) f2 g2' = some (nI n2) := p6
          rw [a2] at e9
          rw [← r3] at p1
          rw [← r6] at p4
          have cS : m_Row_ofSerial x = some (lN (rk 7 (sr b))) := by rw [← hbx]; exact qc_ser hbs
          have mS : m_M_rowOf x = some (lN (pr (sr b))) := by rw [← hbx]; exact qm_ser hbs
          unfold m_Directory_nameAt m_Directory_pagesOfSerial
          rw [e3, Option.bind_some, if_pos rfl, if_neg bj, Option.bind_some, nI_clamp (show j < 2 ^ 31 by omega), g1, e5, Option.bind_some]
          dsimp only
          rw [e6, Option.bind_some]
          dsimp only
          rw [p1, Option.bind_some, cS, Option.bind_some, p4, Option.bind_some, Option.bind_some, nI_add, q1, Option.bind_some]
          rw [e4, Option.bind_some, if_pos m1, e7, Option.bind_some]
          dsimp only
          rw [e8, Option.bind_some]
          dsimp only
          rw [p2, Option.bind_some]
          dsimp only
          rw [if_neg bj', if_neg bj', g2.1, g2.2, p3, Option.bind_some, e9, Option.bind_some]
          dsimp only
          rw [p5, Option.bind_some]
          dsimp only
          rw [mS, Option.bind_some, Option.bind_some, p6', Option.bind_some, nI_add, q2, Option.bind_some]
          dsimp only
          rcases q3 with rfl | rfl | rfl
          · have z : (0 : Int32) ≤ 0 := by decide
            rw [if_pos z, if_neg bj', if_neg bj', if_pos rfl]
            refine ⟨_, _, _, _, _, _, _, _, _, _, _, _, _, _, _, _, _, _, _, _, _, _, _, _, rfl, rfl, q4, fun h => ?_, fun _ => ?_⟩
            · cases h
            · refine ⟨N.set j H, S, T, L, hD4, ⟨by rw [List.length_set], ?_, b3, b4, b5⟩, hA4, hLk⟩
              intro i a hi
              exact ⟨arr_setL (e := fun a => lN (pr a)) (fun i a h => (b2 i a h).1) j H rfl i a hi, arr_setI (e := fun a => nI (List.length a)) (fun i a h => (b2 i a h).2) j H rfl i a hi⟩
          · have z : ¬ (0 : Int32) ≤ -2 := by decide
            rw [if_neg z]
            exact ⟨_, _, _, _, _, _, _, _, _, _, _, _, _, _, _, _, _, _, _, _, _, _, _, _, rfl, rfl, q4, fun _ => keep rfl rfl, fun h => by cases h⟩
          · have z : ¬ (0 : Int32) ≤ -3 := by decide
            rw [if_neg z]
            exact ⟨_, _, _, _, _, _, _, _, _, _, _, _, _, _, _, _, _, _, _, _, _, _, _, _, rfl, rfl, q4, fun _ => keep rfl rfl, fun h => by cases h⟩
    · exact absurd hbx (hn b (get_mem hb))
  · rcases s2 with ⟨j2, b', hb', hbx', e2⟩ | ⟨-, e2⟩
    · exact absurd hbx' (hn b' (get_mem hb'))
    · left
      rw [e1, Option.bind_some, if_pos rfl, e2, Option.bind_some, if_neg m2, rf10, Option.bind_some, if_neg (by decide)]
      exact ⟨rfl, rfl⟩
