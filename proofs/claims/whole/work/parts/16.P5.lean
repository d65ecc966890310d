/-! The counts of places: a list without doubles has their number. -/
theorem bgn_eq {p a : List Nat} {m : Nat} (hm : m ≤ a.length) : (bgn p a ∧ p.length = m) ↔ p = a.take m := by
  constructor
  · intro h
    have := h.1
    unfold bgn at this
    rw [h.2] at this
    exact this
  · intro h
    subst h
    exact ⟨bgn_take a m, by rw [List.length_take]; omega⟩
def bs (R : List (List Nat)) (i : Nat) (p : List Nat) : Prop := p = [] ∨ ∃ k b, k < i ∧ R[k]? = some b ∧ bgn p b
theorem nd_snoc {Q : List (List Nat)} {p : List Nat} (h : Q.Nodup) (hp : p ∉ Q) : (Q ++ [p]).Nodup := by
  rw [List.nodup_append]
  refine ⟨h, by simp, ?_⟩
  intro a ha b hb
  simp only [List.mem_cons, List.not_mem_nil, or_false] at hb
  intro e
  rw [e, hb] at ha
  exact hp ha
theorem qs_pl_in {f : Nat → Int64} {R : List (List Nat)} (h : okR f R) {i : Nat} {a : List Nat} (hi : R[i]? = some a) {k : Nat} (hf : ∀ m, k < m → m ≤ a.length → ∀ j b, j < i → R[j]? = some b → b.take m ≠ a.take m) : ∀ (n m : Nat) (Q : List (List Nat)), k < m → m ≤ a.length + 1 → a.length + 1 - m < n → Q.Nodup → (∀ p, p ∈ Q ↔ isP R p ∧ (bs R i p ∨ (bgn p a ∧ p.length < m))) → ∃ Q' : List (List Nat), m_RowSet_places_l54 (nI i) (nI a.length) f (nI R.length) n (nI Q.length) (nI m) = some (nI Q'.length, nI (a.length + 1)) ∧ Q'.Nodup ∧ ∀ p, p ∈ Q' ↔ isP R p ∧ (bs R i p ∨ bgn p a)
  | 0, m, Q, _, _, h2, _, _ => by omega
  | n + 1, m, Q, hkm, h1, h2, hQ, hM => by
    have va := h.2.2.1 a (get_mem hi)
    have va7 := va.1
    rw [m_RowSet_places_l54]
    by_cases c1 : m = a.length + 1
    · refine ⟨Q, ?_, hQ, ?_⟩
      · rw [if_pos (nI_lt (by omega) (by omega)), c1]
      · intro p
        rw [hM p]
        constructor
        · rintro ⟨h3, h4 | h4⟩
          · exact ⟨h3, Or.inl h4⟩
          · exact ⟨h3, Or.inr h4.1⟩
        · rintro ⟨h3, h4 | h4⟩
          · exact ⟨h3, Or.inl h4⟩
          · exact ⟨h3, Or.inr ⟨h4, by have := bgn_len h4; omega⟩⟩
    · rw [if_neg (nI_nlt (by omega) (by omega))]
      obtain ⟨u, hu, hu2⟩ := qs_isP h hi (show 1 ≤ m by omega) (show m ≤ a.length by omega) (fun j b hj hb => hf m hkm (by omega) j b hj hb)
      rw [hu, Option.bind_some]
      have lp : (a.take m).length = m := by rw [List.length_take]; omega
      by_cases c2 : u = 0
      · rw [if_pos c2, nI_1]
        apply qs_pl_in h hi hf n (m + 1) Q (by omega) (by omega) (by omega) hQ
        intro p
        rw [hM p]
        constructor
        · rintro ⟨h3, h4 | h4⟩
          · exact ⟨h3, Or.inl h4⟩
          · exact ⟨h3, Or.inr ⟨h4.1, by omega⟩⟩
        · rintro ⟨h3, h4 | h4⟩
          · exact ⟨h3, Or.inl h4⟩
          · by_cases c3 : p.length = m
            · have e := (bgn_eq (show m ≤ a.length by omega)).mp ⟨h4.1, c3⟩
              rw [e] at h3
              exact absurd h3 (hu2.mp c2)
            · exact ⟨h3, Or.inr ⟨h4.1, by omega⟩⟩
      · have hP : isP R (a.take m) := Classical.byContradiction (fun h3 => c2 (hu2.mpr h3))
        have hq : a.take m ∉ Q := by
          intro h3
          rcases (hM _).mp h3 with ⟨_, h4 | h4⟩
          · rcases h4 with h4 | ⟨j, b, hj, hb, h5⟩
            · rw [h4] at lp; simp at lp; omega
            · unfold bgn at h5
              rw [lp] at h5
              exact hf m hkm (by omega) j b hj hb h5.symm
          · omega
        rw [if_neg c2, nI_1, nI_1]
        have e1 : Q.length + 1 = (Q ++ [a.take m]).length := by simp
        rw [e1]
        apply qs_pl_in h hi hf n (m + 1) (Q ++ [a.take m]) (by omega) (by omega) (by omega) (nd_snoc hQ hq)
        intro p
        rw [List.mem_append, hM p]
        simp only [List.mem_cons, List.not_mem_nil, or_false]
        constructor
        · rintro (⟨h3, h4 | h4⟩ | h3)
          · exact ⟨h3, Or.inl h4⟩
          · exact ⟨h3, Or.inr ⟨h4.1, by omega⟩⟩
          · rw [h3]
            exact ⟨hP, Or.inr ⟨bgn_take a m, by omega⟩⟩
        · rintro ⟨h3, h4 | h4⟩
          · exact Or.inl ⟨h3, Or.inl h4⟩
          · by_cases c3 : p.length = m
            · exact Or.inr ((bgn_eq (show m ≤ a.length by omega)).mp ⟨h4.1, c3⟩)
            · exact Or.inl ⟨h3, Or.inr ⟨h4.1, by omega⟩⟩
theorem bs_succ {R : List (List Nat)} {i : Nat} {a : List Nat} (hi : R[i]? = some a) (p : List Nat) : (bs R i p ∨ bgn p a) ↔ bs R (i + 1) p := by
  unfold bs
  constructor
  · rintro ((h | ⟨k, b, h1, h2, h3⟩) | h)
    · exact Or.inl h
    · exact Or.inr ⟨k, b, by omega, h2, h3⟩
    · exact Or.inr ⟨i, a, by omega, hi, h⟩
  · rintro (h | ⟨k, b, h1, h2, h3⟩)
    · exact Or.inl (Or.inl h)
    · by_cases e : k = i
      · subst e
        rw [hi] at h2
        injection h2 with h2
        rw [← h2] at h3
        exact Or.inr h3
      · exact Or.inl (Or.inr ⟨k, b, by omega, h2, h3⟩)
theorem qs_pl_out {f : Nat → Int64} {R : List (List Nat)} (h : okR f R) : ∀ (n i : Nat) (Q : List (List Nat)), i ≤ R.length → R.length - i < n → Q.Nodup → (∀ p, p ∈ Q ↔ isP R p ∧ bs R i p) → ∃ Q' : List (List Nat), m_RowSet_places_l4 f (nI R.length) n (nI Q.length) (nI i) = some (nI Q'.length, nI R.length) ∧ Q'.Nodup ∧ ∀ p, p ∈ Q' ↔ isP R p ∧ bs R R.length p
  | 0, i, Q, _, h2, _, _ => by omega
  | n + 1, i, Q, h1, h2, hQ, hM => by
    have hl := h.2.2.2
    rw [m_RowSet_places_l4]
    by_cases c1 : i = R.length
    · subst c1
      exact ⟨Q, by rw [if_pos (nI_le (Nat.le_refl _) (by omega))], hQ, hM⟩
    · obtain ⟨a, hi⟩ := get_ex (show i < R.length by omega)
      have va := h.2.2.1 a (get_mem hi)
      have va7 := va.1
      rw [if_neg (nI_ge (by omega) (by omega))]
      by_cases c2 : i = 0
      · subst c2
        obtain ⟨Q', e1, hQ', hM'⟩ := qs_pl_in h hi (k := 0) (fun m _ _ j b hj _ => by omega) 100 1 Q (by omega) (by omega) (by omega) hQ (by
          intro p
          rw [hM p]
          constructor
          · rintro ⟨h3, h4⟩
            exact ⟨h3, Or.inl h4⟩
          · rintro ⟨h3, h4 | h4⟩
            · exact ⟨h3, h4⟩
            · refine ⟨h3, Or.inl ?_⟩
              have : p.length = 0 := by omega
              exact List.length_eq_zero_iff.mp this)
        have e1' : m_RowSet_places_l54 (nI 0) (nI a.length) f (nI R.length) 100 (nI Q.length) (0 + 1) = some (nI Q'.length, nI (a.length + 1)) := e1
        rw [if_pos nI_0, if_neg (nI_in (show 0 < 24 by decide) (by decide)), nI_clamp (by decide), h.1 0 a hi, qc_len va, Option.bind_some, e1', Option.bind_some, nI_1]
        apply qs_pl_out h n (0 + 1) Q' (by omega) (by omega) hQ'
        intro p
        rw [hM' p, bs_succ hi]
      · obtain ⟨c, hc⟩ := get_ex (show i - 1 < R.length by omega)
        have vc := h.2.2.1 c (get_mem hc)
        have hlt := srt_get h.2.1 hc hi (by omega)
        have hne : c ≠ a := fun e => by rw [e] at hlt; omega
        have hlc := lc_le c a
        have e0 : nI i - 1 = nI (i - 1) := pk_sub (b := 1) (by omega)
        obtain ⟨Q', e1, hQ', hM'⟩ := qs_pl_in h hi (k := lc c a) (by
          intro m hm1 hm2 j b hj hb he
          have vb := h.2.2.1 b (get_mem hb)
          have h3 := sandw vb vc va (srt_le h.2.1 hb hc (by omega)) (by omega) (show m ≤ 7 by omega) he
          have h4 := congrArg List.length (h3.trans he)
          rw [List.length_take, List.length_take] at h4
          have := lc_max c a m (by omega) (by omega) (h3.trans he)
          omega) 100 (lc c a + 1) Q (by omega) (by omega) (by omega) hQ (by
          intro p
          rw [hM p]
          constructor
          · rintro ⟨h3, h4⟩
            exact ⟨h3, Or.inl h4⟩
          · rintro ⟨h3, h4 | h4⟩
            · exact ⟨h3, h4⟩
            · refine ⟨h3, Or.inr ⟨i - 1, c, by omega, hc, ?_⟩⟩
              have h5 := h4.1
              unfold bgn at h5 ⊢
              rw [take_le_take (lc_take c a) (show p.length ≤ lc c a by omega)]
              exact h5)
        rw [if_neg (nI_ne0 (by omega) (by omega)), e0, if_neg (nI_in (by omega) (by decide)), if_neg (nI_in (by omega) (by decide)), nI_clamp (by omega), nI_clamp (by omega), h.1 _ c hc, h.1 i a hi, qc_com vc va hne, Option.bind_some, if_neg (nI_in' (show i < 24 by omega) (by decide)), qc_len va, Option.bind_some, nI_1, e1, Option.bind_some, nI_1]
        apply qs_pl_out h n (i + 1) Q' (by omega) (by omega) hQ'
        intro p
        rw [hM' p, bs_succ hi]
theorem qs_places {f : Nat → Int64} {R : List (List Nat)} (h : okR f R) : ∃ Q : List (List Nat), m_RowSet_places f (nI R.length) = some (nI Q.length) ∧ Q.Nodup ∧ ∀ p, p ∈ Q ↔ isP R p := by
  have hl := h.2.2.2
  obtain ⟨Q, e, hQ, hM⟩ := qs_pl_out h 100 0 [[]] (Nat.zero_le _) (by omega) (by simp) (by
    intro p
    simp only [List.mem_cons, List.not_mem_nil, or_false]
    constructor
    · intro h3
      exact ⟨Or.inl h3, Or.inl h3⟩
    · rintro ⟨_, h3 | ⟨k, b, h4, _⟩⟩
      · exact h3
      · omega)
  refine ⟨Q, ?_, hQ, ?_⟩
  · have e' : m_RowSet_places_l4 f (nI R.length) 100 1 0 = some (nI Q.length, nI R.length) := e
    unfold m_RowSet_places
    rw [e']; rfl
  · intro p
    rw [hM p]
    constructor
    · intro h3; exact h3.1
    · intro h3
      refine ⟨h3, ?_⟩
      by_cases c : p = []
      · exact Or.inl c
      · obtain ⟨b, hb, h4⟩ := isP_row h3 c
        obtain ⟨k, hk⟩ := List.mem_iff_getElem?.mp hb
        exact Or.inr ⟨k, b, get_lt hk, hk, h4⟩
theorem qs_along1 {f : Nat → Int64} {R : List (List Nat)} (h : okR f R) {s : List Nat} (hs : vd s) {m : Nat} (hm : m ≤ s.length) : ∃ u, m_RowSet_isPlaceAlong (lN (rk 7 s)) (nI m) f (nI R.length) = some u ∧ (u = 0 ↔ ¬ isP R (s.take m)) := by
  have hl := h.2.2.2
  have hs7 := hs.1
  unfold m_RowSet_isPlaceAlong
  by_cases c0 : m = 0
  · subst c0
    refine ⟨1, by rw [if_pos nI_0], ?_⟩
    constructor
    · intro e; exact absurd e (by decide)
    · intro e; exact absurd (Or.inl (by rw [List.take_zero])) e
  · have lp : (s.take m).length = m := by rw [List.length_take]; omega
    have vp := vd_take hs m
    have pn : s.take m ≠ [] := fun e => by rw [e] at lp; simp at lp; omega
    obtain ⟨j, hj, e1, hb⟩ := qs_before h (vd_lt vp)
    have hrow : isP R (s.take m) → ∃ k b, R[k]? = some b ∧ b.take m = s.take m ∧ j ≤ k := by
      intro hP
      obtain ⟨b, hbm, h3⟩ := isP_row hP pn
      obtain ⟨k, hk⟩ := List.mem_iff_getElem?.mp hbm
      unfold bgn at h3
      rw [lp] at h3
      refine ⟨k, b, hk, h3.symm, ?_⟩
      apply Nat.le_of_not_lt
      intro h4
      have h5 := (hb k b hk).mp h4
      have h6 := rk_tle (h.2.2.1 b hbm) (show m ≤ 7 by omega)
      rw [← h3] at h6
      omega
    rw [if_neg (nI_ne0 (by omega) (by omega)), qc_beg hs (by omega), Option.bind_some, e1, Option.bind_some]
    by_cases c1 : R.length ≤ j
    · refine ⟨0, by rw [if_pos (nI_le c1 (by omega))], fun _ hP => ?_, fun _ => rfl⟩
      obtain ⟨k, b, hk, _, h4⟩ := hrow hP
      have := get_lt hk
      omega
    · obtain ⟨a, ha⟩ := get_ex (show j < R.length by omega)
      have va := h.2.2.1 a (get_mem ha)
      rw [if_neg (nI_ge (by omega) (by omega)), qs_has h ha vp (by omega), Option.bind_some]
      by_cases c2 : a.take m = s.take m
      · have hma : m ≤ a.length := by
          have := congrArg List.length c2
          rw [lp, List.length_take] at this
          omega
        obtain ⟨u, hu, hu2⟩ := qs_isP h ha (show 1 ≤ m by omega) hma (by
          intro k b hk hkb he
          have h5 := (hb k b hkb).mp hk
          have h6 := rk_tle (h.2.2.1 b (get_mem hkb)) (show m ≤ 7 by omega)
          rw [he, c2] at h6
          omega)
        rw [c2] at hu2
        rw [if_pos c2, if_neg (by decide), hu, Option.bind_some]
        by_cases c3 : u = 0
        · exact ⟨0, by rw [if_pos c3], fun _ => hu2.mp c3, fun _ => rfl⟩
        · exact ⟨1, by rw [if_neg c3], fun e => absurd e (by decide), fun hP => absurd (hu2.mpr hP) c3⟩
      · refine ⟨0, by rw [if_neg c2, if_pos rfl], fun _ hP => ?_, fun _ => rfl⟩
        obtain ⟨k, b, hk, hbm, h4⟩ := hrow hP
        have h5 : rk 7 (s.take m) ≤ rk 7 a := by
          apply Nat.le_of_not_lt
          intro h6
          have := (hb j a ha).mpr h6
          omega
        have e2 : (s.take m).take m = s.take m := by rw [List.take_take, Nat.min_self]
        have := sandw vp va (h.2.2.1 b (get_mem hk)) h5 (srt_le h.2.1 ha hk h4) (show m ≤ 7 by omega) (e2.trans hbm.symm)
        exact c2 (this.trans e2)
theorem qs_al_l {f : Nat → Int64} {R : List (List Nat)} (h : okR f R) {s : List Nat} (hs : vd s) {k : Nat} : ∀ (n m : Nat) (Q : List (List Nat)), k ≤ m → m ≤ s.length + 1 → s.length + 1 - m < n → Q.Nodup → (∀ p, p ∈ Q ↔ isP R p ∧ bgn p s ∧ k ≤ p.length ∧ p.length < m) → ∃ Q' : List (List Nat), m_RowSet_placesAlong_l12 (lN (rk 7 s)) (nI s.length) f (nI R.length) n (nI Q.length) (nI m) = some (nI Q'.length, nI (s.length + 1)) ∧ Q'.Nodup ∧ ∀ p, p ∈ Q' ↔ isP R p ∧ bgn p s ∧ k ≤ p.length
  | 0, m, Q, _, _, h2, _, _ => by omega
  | n + 1, m, Q, hk, h1, h2, hQ, hM => by
    have hs7 := hs.1
    rw [m_RowSet_placesAlong_l12]
    by_cases c1 : m = s.length + 1
    · refine ⟨Q, ?_, hQ, ?_⟩
      · rw [if_pos (nI_lt (by omega) (by omega)), c1]
      · intro p
        rw [hM p]
        constructor
        · rintro ⟨h3, h4, h5, _⟩
          exact ⟨h3, h4, h5⟩
        · rintro ⟨h3, h4, h5⟩
          exact ⟨h3, h4, h5, by have := bgn_len h4; omega⟩
    · rw [if_neg (nI_nlt (by omega) (by omega))]
      obtain ⟨u, hu, hu2⟩ := qs_along1 h hs (show m ≤ s.length by omega)
      rw [hu, Option.bind_some]
      have lp : (s.take m).length = m := by rw [List.length_take]; omega
      by_cases c2 : u = 0
      · rw [if_pos c2, nI_1]
        apply qs_al_l h hs n (m + 1) Q (by omega) (by omega) (by omega) hQ
        intro p
        rw [hM p]
        constructor
        · rintro ⟨h3, h4, h5, h6⟩
          exact ⟨h3, h4, h5, by omega⟩
        · rintro ⟨h3, h4, h5, h6⟩
          by_cases c3 : p.length = m
          · have e := (bgn_eq (show m ≤ s.length by omega)).mp ⟨h4, c3⟩
            rw [e] at h3
            exact absurd h3 (hu2.mp c2)
          · exact ⟨h3, h4, h5, by omega⟩
      · have hP : isP R (s.take m) := Classical.byContradiction (fun h3 => c2 (hu2.mpr h3))
        have hq : s.take m ∉ Q := by
          intro h3
          have := ((hM _).mp h3).2.2.2
          omega
        rw [if_neg c2, nI_1, nI_1]
        have e1 : Q.length + 1 = (Q ++ [s.take m]).length := by simp
        rw [e1]
        apply qs_al_l h hs n (m + 1) (Q ++ [s.take m]) (by omega) (by omega) (by omega) (nd_snoc hQ hq)
        intro p
        rw [List.mem_append, hM p]
        simp only [List.mem_cons, List.not_mem_nil, or_false]
        constructor
        · rintro (⟨h3, h4, h5, h6⟩ | h3)
          · exact ⟨h3, h4, h5, by omega⟩
          · rw [h3]
            exact ⟨hP, bgn_take s m, by omega, by omega⟩
        · rintro ⟨h3, h4, h5, h6⟩
          by_cases c3 : p.length = m
          · exact Or.inr ((bgn_eq (show m ≤ s.length by omega)).mp ⟨h4, c3⟩)
          · exact Or.inl ⟨h3, h4, h5, by omega⟩
theorem qs_along {f : Nat → Int64} {R : List (List Nat)} (h : okR f R) {s : List Nat} (hs : vd s) {k : Nat} (hk : k ≤ s.length + 1) : ∃ Q : List (List Nat), m_RowSet_placesAlong (lN (rk 7 s)) (nI k) f (nI R.length) = some (nI Q.length) ∧ Q.Nodup ∧ ∀ p, p ∈ Q ↔ isP R p ∧ bgn p s ∧ k ≤ p.length := by
  have hs7 := hs.1
  obtain ⟨Q, e, hQ, hM⟩ := qs_al_l h hs (k := k) 100 k [] (Nat.le_refl _) hk (by omega) (by simp) (by
    intro p
    simp only [List.not_mem_nil, false_iff]
    rintro ⟨_, _, h3, h4⟩
    omega)
  have e' : m_RowSet_placesAlong_l12 (lN (rk 7 s)) (nI s.length) f (nI R.length) 100 0 (nI k) = some (nI Q.length, nI (s.length + 1)) := e
  refine ⟨Q, ?_, hQ, hM⟩
  unfold m_RowSet_placesAlong
  rw [qc_len hs, Option.bind_some, e']; rfl
