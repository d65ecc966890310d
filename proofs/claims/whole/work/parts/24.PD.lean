/-! the reading calls -/
def FR (sf fs : Int32) : Prop := (sf = -1 ∧ fs = 0) ∨ ∃ s, 1 ≤ s ∧ s < 65536 ∧ sf = nI s ∧ fs = nI s
theorem st_find {nm : Nat → Int64} {se ta : Nat → Int32} {nr : Nat → Int64} {nrs : Int32} {sw : Nat → Int64} {sws sz la : Int32} {ct : Int32} {nm2 : Nat → Int64} {le2 se2 ta2 : Nat → Int32} {la2 : Int32} {k : Nat} (hK : KR nm se ta nr nrs sw sws sz la ct nm2 le2 se2 ta2 la2 k) {H : List Nat} (hH : vd H) :
    (m_L_find nm ta sz 1 (lN (rk 7 H)) = some (.inl "java/util/NoSuchElementException") ∧ m_M_find ct nm2 le2 ta2 (lN (pr H)) (nI H.length) 0 = some (0, 2)) ∨ ∃ v, m_L_find nm ta sz 1 (lN (rk 7 H)) = some (.inr v) ∧ m_M_find ct nm2 le2 ta2 (lN (pr H)) (nI H.length) 0 = some (v, 0) := by
  obtain ⟨N, S, T, L, ⟨d1, d2, d3, d4, d5, d6, d7⟩, ⟨b1, b2, b3, b4, b5⟩, hA, hLk⟩ := hK
  obtain ⟨a1, a2, a3, a4, a5, a6, a7, a8⟩ := id hA
  subst d6 b1
  unfold m_L_find m_M_find m_Directory_targetAt
  rw [rq1, thr_r]
  rcases qd_ixN d1 (AI_v hA) a1 hH with ⟨j, hj, e1⟩ | ⟨hn, e1⟩
  · rcases qm_ixN b2 (AI_v hA) a1 hH with ⟨j2, hj2, e2⟩ | ⟨hn, e2⟩
    · have ej := nd_ix a4 hj hj2
      subst ej
      have hjl := get_lt hj
      obtain ⟨t, ht⟩ := get_ex (show j < T.length by omega)
      have g1 : ta j = t := d3 j t ht
      have g2 : ta2 j = t := b4 j t ht
      have bj := nI_in (c := j) (N := 24) (by omega) (by decide)
      right
      refine ⟨t, ?_, ?_⟩
      · rw [e1, Option.bind_some, if_neg (nI_m1 (by omega)), if_neg bj, nI_clamp (by omega), g1]
        rfl
      · rw [e2, Option.bind_some, if_pos (nI_pos' (by omega)), rf00, Option.bind_some, if_pos rfl, if_neg bj, nI_clamp (by omega), g2]
    · exact absurd (get_mem hj) hn
  · rcases qm_ixN b2 (AI_v hA) a1 hH with ⟨j2, hj2, e2⟩ | ⟨-, e2⟩
    · exact absurd (get_mem hj2) hn
    · left
      have m2 : ¬ (0 : Int32) ≤ -1 := by decide
      rw [e1, Option.bind_some, if_pos rfl, e2, Option.bind_some, if_neg m2, rf10, Option.bind_some, if_neg (by decide)]
      exact ⟨rfl, rfl⟩
theorem st_ser {nm : Nat → Int64} {se ta : Nat → Int32} {nr : Nat → Int64} {nrs : Int32} {sw : Nat → Int64} {sws sz la : Int32} {ct : Int32} {nm2 : Nat → Int64} {le2 se2 ta2 : Nat → Int32} {la2 : Int32} {k : Nat} (hK : KR nm se ta nr nrs sw sws sz la ct nm2 le2 se2 ta2 la2 k) {H : List Nat} (hH : vd H) :
    ∃ v, m_L_serial nm se sz 1 (lN (rk 7 H)) = some (.inr v) ∧ m_M_serial ct nm2 le2 se2 (lN (pr H)) (nI H.length) 0 = some (v, 0) := by
  obtain ⟨N, S, T, L, ⟨d1, d2, d3, d4, d5, d6, d7⟩, ⟨b1, b2, b3, b4, b5⟩, hA, hLk⟩ := hK
  obtain ⟨a1, a2, a3, a4, a5, a6, a7, a8⟩ := id hA
  subst d6 b1
  unfold m_L_serial m_M_serial m_L_serialAtOrNone m_Directory_serialAt
  rw [rq1, thr_r]
  rcases qd_ixN d1 (AI_v hA) a1 hH with ⟨j, hj, e1⟩ | ⟨hn, e1⟩
  · rcases qm_ixN b2 (AI_v hA) a1 hH with ⟨j2, hj2, e2⟩ | ⟨hn, e2⟩
    · have ej := nd_ix a4 hj hj2
      subst ej
      have hjl := get_lt hj
      obtain ⟨b, hb⟩ := get_ex (show j < S.length by omega)
      have g1 : se j = nI b := d2 j b hb
      have g2 : se2 j = nI b := b3 j b hb
      have bj := nI_in (c := j) (N := 24) (by omega) (by decide)
      refine ⟨nI b, ?_, ?_⟩
      · rw [e1, Option.bind_some, if_neg (nI_m1 (by omega)), if_neg bj, nI_clamp (by omega), g1]
        rfl
      · rw [e2, Option.bind_some, rf00, Option.bind_some, if_pos rfl, if_pos (nI_pos' (by omega)), if_neg bj, nI_clamp (by omega), g2]
    · exact absurd (get_mem hj) hn
  · rcases qm_ixN b2 (AI_v hA) a1 hH with ⟨j2, hj2, e2⟩ | ⟨-, e2⟩
    · exact absurd (get_mem hj2) hn
    · have m2 : ¬ (0 : Int32) ≤ -1 := by decide
      refine ⟨-1, ?_, ?_⟩
      · rw [e1, Option.bind_some, if_pos rfl]
        rfl
      · rw [e2, Option.bind_some, rf00, Option.bind_some, if_pos rfl, if_neg m2]
theorem st_next {nm : Nat → Int64} {se ta : Nat → Int32} {nr : Nat → Int64} {nrs : Int32} {sw : Nat → Int64} {sws sz la : Int32} {ct : Int32} {nm2 : Nat → Int64} {le2 se2 ta2 : Nat → Int32} {la2 : Int32} {k : Nat} (hK : KR nm se ta nr nrs sw sws sz la ct nm2 le2 se2 ta2 la2 k) (x fs : Int32) :
    ∃ v fs', m_L_next x se sz 1 = some (.inr (v, v)) ∧ m_M_next x ct se2 fs 0 = some (v, 0, fs') ∧ FR v fs' := by
  obtain ⟨N, S, T, L, ⟨d1, d2, d3, d4, d5, d6, d7⟩, ⟨b1, b2, b3, b4, b5⟩, hA, hLk⟩ := hK
  obtain ⟨a1, a2, a3, a4, a5, a6, a7, a8⟩ := id hA
  subst d6 b1
  have hS : ∀ a ∈ S, a < 2 ^ 31 := fun a ha => by have := AI_s hA a ha; omega
  have s1 := qd_ab d2 (by omega) x
  rw [a2] at s1
  unfold m_L_next m_M_next m_L_serialAtOrNone m_Directory_serialAt
  rw [rq1, thr_r, rf00, Option.bind_some, if_pos rfl]
  rcases s1 with ⟨j, b, hb, hbx, hlo, e1⟩ | ⟨hn, e1⟩
  · have hjl := get_lt hb
    have g1 : se j = nI b := d2 j b hb
    have hb2 := a7 b (get_mem hb)
    have bj := nI_in (c := j) (N := 24) (by omega) (by decide)
    have e2 := qm_nx b3 (by omega) hS a6 100 0 (Nat.zero_le _) (by omega) j b hb (Nat.zero_le _) hbx hlo
    rw [nI_0, a2] at e2
    refine ⟨nI b, nI b, ?_, ?_, Or.inr ⟨b, hb2.1, by omega, rfl, rfl⟩⟩
    · rw [e1, Option.bind_some, if_neg (nI_m1 (by omega)), if_neg bj, nI_clamp (by omega), g1]
      rfl
    · rw [e2, Option.bind_some, if_pos (nI_pos' (by omega))]
  · have m2 : ¬ (0 : Int32) ≤ -1 := by decide
    have e2 := qm_nx_lo b3 (by omega) (x := x) 100 0 (Nat.zero_le _) (by omega) (fun q a hq _ => hn a (get_mem hq)) (-1)
    rw [nI_0, a2] at e2
    refine ⟨-1, 0, ?_, ?_, Or.inl ⟨rfl, rfl⟩⟩
    · rw [e1, Option.bind_some, if_pos rfl]
      rfl
    · rw [e2, Option.bind_some, if_neg m2]
theorem st_found {nm : Nat → Int64} {se ta : Nat → Int32} {nr : Nat → Int64} {nrs : Int32} {sw : Nat → Int64} {sws sz la : Int32} {ct : Int32} {nm2 : Nat → Int64} {le2 se2 ta2 : Nat → Int32} {la2 : Int32} {k : Nat} (hK : KR nm se ta nr nrs sw sws sz la ct nm2 le2 se2 ta2 la2 k) {sf fs : Int32} (hF : FR sf fs) :
    ∃ v, m_L_found nm se sz 1 sf = some (.inr v) ∧ m_M_found ct nm2 se2 fs 0 = some (v, 0) := by
  obtain ⟨N, S, T, L, ⟨d1, d2, d3, d4, d5, d6, d7⟩, ⟨b1, b2, b3, b4, b5⟩, hA, hLk⟩ := hK
  obtain ⟨a1, a2, a3, a4, a5, a6, a7, a8⟩ := id hA
  subst d6 b1
  have m2 : ¬ (0 : Int32) ≤ -1 := by decide
  have s1 := qd_ixS d2 (by omega) sf
  rw [a2] at s1
  unfold m_L_found m_M_found m_Directory_nameAt
  rw [rq1, thr_r]
  rcases hF with ⟨h1, h2⟩ | ⟨s, hs1, hs2, h1, h2⟩
  · subst h1 h2
    refine ⟨0, ?_, ?_⟩
    · rcases s1 with ⟨j, b, hb, hbx, e1⟩ | ⟨hn, e1⟩
      · exact absurd hbx (nI_m1 (by have := AI_s hA b (get_mem hb); omega))
      · rw [e1, Option.bind_some, if_pos rfl]
    · rw [if_pos rfl, rf00, Option.bind_some, if_pos rfl, if_neg m2]
  · subst h1 h2
    have s2 := qm_ixS b3 (by omega) (nI s)
    rw [a2] at s2
    rw [if_neg (nI_ne0 (by omega) (by omega))]
    rcases s1 with ⟨j, b, hb, hbx, e1⟩ | ⟨hn, e1⟩
    · rcases s2 with ⟨j2, b', hb', hbx', e2⟩ | ⟨hn, e2⟩
      · have hbs := AI_s hA b (get_mem hb)
        have hbs' := AI_s hA b' (get_mem hb')
        have ebb : b = b' := (nI_eq (by omega) (by omega)).mp (hbx.trans hbx'.symm)
        subst ebb
        have ej := nd_ix (AI_ns hA) hb hb'
        subst ej
        have hjl := get_lt hb
        obtain ⟨t, ht⟩ := get_ex (show j < N.length by omega)
        have g1 : nm j = lN (rk 7 t) := d1 j t ht
        have g2 := (b2 j t ht).1
        have bj := nI_in (c := j) (N := 24) (by omega) (by decide)
        refine ⟨lN (pr t), ?_, ?_⟩
        · rw [e1, Option.bind_some, if_neg (nI_m1 (by omega)), if_neg bj, Option.bind_some, nI_clamp (by omega), g1, qc_word (AI_v hA t (get_mem ht))]
          rfl
        · rw [e2, Option.bind_some, rf00, Option.bind_some, if_pos rfl, if_pos (nI_pos' (by omega)), if_neg bj, nI_clamp (by omega), g2]
      · exact absurd hbx (hn b (get_mem hb))
    · rcases s2 with ⟨j2, b', hb', hbx', e2⟩ | ⟨-, e2⟩
      · exact absurd hbx' (hn b' (get_mem hb'))
      · refine ⟨0, ?_, ?_⟩
        · rw [e1, Option.bind_some, if_pos rfl]
        · rw [e2, Option.bind_some, rf00, Option.bind_some, if_pos rfl, if_neg m2]
theorem st_count {nm : Nat → Int64} {se ta : Nat → Int32} {nr : Nat → Int64} {nrs : Int32} {sw : Nat → Int64} {sws sz la : Int32} {ct : Int32} {nm2 : Nat → Int64} {le2 se2 ta2 : Nat → Int32} {la2 : Int32} {k : Nat} (hK : KR nm se ta nr nrs sw sws sz la ct nm2 le2 se2 ta2 la2 k) :
    ∃ v, m_L_count sz 1 = some (.inr v) ∧ m_M_count ct 0 = some (v, 0) := by
  obtain ⟨N, S, T, L, ⟨d1, d2, d3, d4, d5, d6, d7⟩, ⟨b1, b2, b3, b4, b5⟩, hA, hLk⟩ := hK
  subst d6 b1
  refine ⟨nI N.length, ?_, ?_⟩
  · unfold m_L_count m_Directory_entries
    rw [rq1, thr_r]
    rfl
  · unfold m_M_count
    rw [rf00, Option.bind_some, if_pos rfl]
theorem st_free {nm : Nat → Int64} {se ta : Nat → Int32} {nr : Nat → Int64} {nrs : Int32} {sw : Nat → Int64} {sws sz la : Int32} {ct : Int32} {nm2 : Nat → Int64} {le2 se2 ta2 : Nat → Int32} {la2 : Int32} {k : Nat} (hK : KR nm se ta nr nrs sw sws sz la ct nm2 le2 se2 ta2 la2 k) (rows : Int32) (F : Nat → Int64) (G : Nat → Int32) (pl : Int32) (f : Nat → Int64) (g : Nat → Int32) :
    ∃ v rows' F' G' pl' f' g', m_L_free nr nrs sw sws 1 = some (.inr v) ∧ m_M_free ct nm2 le2 se2 rows F G pl f g 0 = some (v, 0, rows', F', G', pl', f', g') := by
  obtain ⟨N, S, T, L, hD, hM, hA, hLk⟩ := hK
  obtain ⟨v, c1, F', G', c2, f', g', e1, e2⟩ := free_eq hD hA hM F G f g
  refine ⟨v, c1, F', G', c2, f', g', ?_, ?_⟩
  · unfold m_L_free
    rw [rq1, thr_r, e1]
    rfl
  · unfold m_M_free
    rw [rf00, Option.bind_some, if_pos rfl, e2]
    rfl
