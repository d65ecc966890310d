/-! power off; the calls that need no power -/
theorem of_M_add (x ct : Int32) (nm : Nat → Int64) (le se ta : Nat → Int32) (la : Int32) (h : Int64) (hl rows : Int32) (F : Nat → Int64) (G : Nat → Int32) (pl : Int32) (f : Nat → Int64) (g : Nat → Int32) (left w : Int32) : m_M_add x ct nm le se ta la h hl rows F G pl f g 1 left w = some (0, 1, ct, nm, le, se, ta, la, rows, F, G, pl, f, g, 1, left, w) := by
  unfold m_M_add
  rw [rf01, Option.bind_some, if_neg (by decide)]
theorem of_M_rem (ct : Int32) (nm : Nat → Int64) (le se ta : Nat → Int32) (h : Int64) (hl rows : Int32) (F : Nat → Int64) (G : Nat → Int32) (pl : Int32) (f : Nat → Int64) (g : Nat → Int32) (left w : Int32) : m_M_remove ct nm le se ta h hl rows F G pl f g 1 left w = some (0, 1, ct, nm, le, se, ta, rows, F, G, pl, f, g, 1, left, w) := by
  unfold m_M_remove
  rw [rf01, Option.bind_some, if_neg (by decide)]
theorem of_M_rep (x ct : Int32) (nm : Nat → Int64) (le se ta : Nat → Int32) (h : Int64) (hl rows : Int32) (F : Nat → Int64) (G : Nat → Int32) (pl : Int32) (f : Nat → Int64) (g : Nat → Int32) (left w : Int32) : m_M_replace x ct nm le se ta h hl rows F G pl f g 1 left w = some (0, 1, ta, rows, F, G, pl, f, g, 1, left, w) := by
  unfold m_M_replace
  rw [rf01, Option.bind_some, if_neg (by decide)]
theorem of_M_ren {N : List (List Nat)} {S : List Nat} {T : List Int32} {L : Nat} {ct : Int32} {nm : Nat → Int64} {le se ta : Nat → Int32} {la : Int32} (hM : MR ct nm le se ta la N S T L) (hA : AI N S T L) (x : Int32) (h : Int64) (hl rows : Int32) (F : Nat → Int64) (G : Nat → Int32) (pl : Int32) (f : Nat → Int64) (g : Nat → Int32) (left w : Int32) : m_M_rename x ct nm le se h hl rows F G pl f g 1 left w = some (0, 1, nm, le, rows, F, G, pl, f, g, 1, left, w) := by
  obtain ⟨b1, b2, b3, b4, b5⟩ := hM
  obtain ⟨a1, a2, -⟩ := id hA
  subst b1
  have s2 := qm_ixS b3 (by omega) x
  rw [a2] at s2
  have m2 : ¬ (0 : Int32) ≤ -1 := by decide
  unfold m_M_rename
  rcases s2 with ⟨j, b, hb, _, e2⟩ | ⟨-, e2⟩
  · have := get_lt hb
    rw [e2, Option.bind_some, if_pos (nI_pos' (by omega)), rf01, Option.bind_some, if_neg (by decide)]
  · rw [e2, Option.bind_some, if_neg m2, rf11, Option.bind_some, if_neg (by decide)]
theorem of_M_find {N : List (List Nat)} {S : List Nat} {T : List Int32} {L : Nat} {ct : Int32} {nm : Nat → Int64} {le se ta : Nat → Int32} {la : Int32} (hM : MR ct nm le se ta la N S T L) (hA : AI N S T L) {H : List Nat} (hH : vd H) : m_M_find ct nm le ta (lN (pr H)) (nI H.length) 1 = some (0, 1) := by
  obtain ⟨b1, b2, b3, b4, b5⟩ := hM
  obtain ⟨a1, -⟩ := id hA
  subst b1
  have m2 : ¬ (0 : Int32) ≤ -1 := by decide
  unfold m_M_find
  rcases qm_ixN b2 (AI_v hA) a1 hH with ⟨j, hj, e2⟩ | ⟨-, e2⟩
  · have := get_lt hj
    rw [e2, Option.bind_some, if_pos (nI_pos' (by omega)), rf01, Option.bind_some, if_neg (by decide)]
  · rw [e2, Option.bind_some, if_neg m2, rf11, Option.bind_some, if_neg (by decide)]
theorem of_M_ser {N : List (List Nat)} {S : List Nat} {T : List Int32} {L : Nat} {ct : Int32} {nm : Nat → Int64} {le se ta : Nat → Int32} {la : Int32} (hM : MR ct nm le se ta la N S T L) (hA : AI N S T L) {H : List Nat} (hH : vd H) : m_M_serial ct nm le se (lN (pr H)) (nI H.length) 1 = some (0, 1) := by
  obtain ⟨b1, b2, b3, b4, b5⟩ := hM
  obtain ⟨a1, -⟩ := id hA
  subst b1
  unfold m_M_serial
  rcases qm_ixN b2 (AI_v hA) a1 hH with ⟨j, hj, e2⟩ | ⟨-, e2⟩
  · rw [e2, Option.bind_some, rf01, Option.bind_some, if_neg (by decide)]
  · rw [e2, Option.bind_some, rf01, Option.bind_some, if_neg (by decide)]
theorem of_M_next (x ct : Int32) (se : Nat → Int32) (fs : Int32) : m_M_next x ct se fs 1 = some (0, 1, fs) := by
  unfold m_M_next
  rw [rf01, Option.bind_some, if_neg (by decide)]
theorem of_M_list (k n ct : Int32) (nm : Nat → Int64) (le se : Nat → Int32) (h : Int64) (hl fs : Int32) : m_M_listed k n ct nm le se h hl fs 1 = some (0, 1, fs) := by
  unfold m_M_listed
  by_cases c : n < 0
  · rw [if_pos c, rf11, Option.bind_some, if_neg (by decide)]
  · rw [if_neg c]
    by_cases c2 : n ≤ hl
    · rw [if_pos c2, rf01, Option.bind_some, if_neg (by decide)]
    · rw [if_neg c2, rf11, Option.bind_some, if_neg (by decide)]
theorem of_M_rank (ct : Int32) (nm : Nat → Int64) (le : Nat → Int32) (h : Int64) (hl : Int32) : m_M_rank ct nm le h hl 1 = some (0, 1) := by
  unfold m_M_rank
  rw [rf01, Option.bind_some, if_neg (by decide)]
theorem of_M_found {N : List (List Nat)} {S : List Nat} {T : List Int32} {L : Nat} {ct : Int32} {nm : Nat → Int64} {le se ta : Nat → Int32} {la : Int32} (hM : MR ct nm le se ta la N S T L) (hA : AI N S T L) (fs : Int32) : m_M_found ct nm se fs 1 = some (0, 1) := by
  obtain ⟨b1, b2, b3, b4, b5⟩ := hM
  obtain ⟨a1, a2, -⟩ := id hA
  subst b1
  unfold m_M_found
  by_cases c : fs = 0
  · rw [if_pos c, rf01, Option.bind_some, if_neg (by decide)]
  · rw [if_neg c]
    have s2 := qm_ixS b3 (by omega) fs
    rw [a2] at s2
    rcases s2 with ⟨j, b, hb, _, e2⟩ | ⟨-, e2⟩
    · rw [e2, Option.bind_some, rf01, Option.bind_some, if_neg (by decide)]
    · rw [e2, Option.bind_some, rf01, Option.bind_some, if_neg (by decide)]
theorem of_M_count (ct : Int32) : m_M_count ct 1 = some (0, 1) := by
  unfold m_M_count
  rw [rf01, Option.bind_some, if_neg (by decide)]
theorem of_M_free (ct : Int32) (nm : Nat → Int64) (le se : Nat → Int32) (rows : Int32) (F : Nat → Int64) (G : Nat → Int32) (pl : Int32) (f : Nat → Int64) (g : Nat → Int32) : m_M_free ct nm le se rows F G pl f g 1 = some (0, 1, rows, F, G, pl, f, g) := by
  unfold m_M_free
  rw [rf01, Option.bind_some, if_neg (by decide)]
theorem st_fail (x lM : Int32) : (m_L_failAfter x = some (.inl "java/lang/IllegalArgumentException") ∧ m_M_failAfter x lM = some (1, lM)) ∨ ((-1 : Int32) ≤ x ∧ m_L_failAfter x = some (.inr x) ∧ m_M_failAfter x lM = some (0, x)) := by
  unfold m_L_failAfter m_M_failAfter m_Power_allow
  by_cases c : (-1 : Int32) ≤ x
  · right
    rw [if_pos c, if_pos c, if_pos rfl]
    exact ⟨c, rfl, rfl⟩
  · left
    rw [if_neg c, if_neg c, if_neg (by decide)]
    exact ⟨rfl, rfl⟩
