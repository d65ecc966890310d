/-! The reference's tables. -/
def aB (f : Nat → Int64) (g : Nat → Int32) (S : List (List Nat)) : Prop := ∀ i a, S[i]? = some a → f i = lN (pr a) ∧ g i = nI a.length
theorem aB_snoc {f : Nat → Int64} {g : Nat → Int32} {S : List (List Nat)} (h : aB f g S) (q : List Nat) : aB (vp_updL f S.length (lN (pr q))) (upd g S.length (nI q.length)) (S ++ [q]) := by
  intro i a hi
  by_cases c : i < S.length
  · rw [List.getElem?_append_left c] at hi
    rw [pk_uLn (by omega), pk_un (by omega)]
    exact h i a hi
  · have := get_lt hi
    rw [List.length_append, List.length_singleton] at this
    have e : i = S.length := by omega
    subst e
    rw [List.getElem?_append_right (Nat.le_refl _), Nat.sub_self] at hi
    simp only [List.getElem?_cons_zero, Option.some.injEq] at hi
    subst hi
    rw [pk_uLs, pk_us]
    exact ⟨rfl, rfl⟩
theorem nm_eq {a b : List Nat} (ha : vd a) (hb : vd b) : (lg_cmp (lN (pr a)) (lN (pr b)) = 0 ∧ nI a.length = nI b.length) ↔ a = b := by
  have p1 := vd_pr ha
  have p2 := vd_pr hb
  have l1 := ha.1
  have l2 := hb.1
  rw [cmp_eq (by omega) (by omega), nI_eq (by omega) (by omega)]
  constructor
  · intro h; exact pr_inj a b ha.2 hb.2 h.2 h.1
  · intro h; rw [h]; exact ⟨rfl, rfl⟩
def ly (P : List (List Nat)) (q : List Nat) : List (List Nat) := if q ∈ P then P else P ++ [q]
theorem qm_lay_l {f : Nat → Int64} {g : Nat → Int32} {P : List (List Nat)} (h : aB f g P) (hv : ∀ a ∈ P, vd a) {q : List Nat} (hq : vd q) (hl : P.length < 64) : ∀ (n i : Nat), i ≤ P.length → P.length - i < n → (∀ k a, P[k]? = some a → k < i → a ≠ q) → ∃ f' g', m_M_lay_l3 (lN (pr q)) (nI q.length) f g (nI P.length) n (nI i) = some (nI (ly P q).length, f', g') ∧ aB f' g' (ly P q)
  | 0, _, _, h2, _ => by omega
  | n + 1, i, h1, h2, hI => by
    rw [m_M_lay_l3]
    by_cases c : i = P.length
    · have hn : q ∉ P := by
        intro hm
        obtain ⟨k, hk⟩ := List.mem_iff_getElem?.mp hm
        exact hI k q hk (by have := get_lt hk; omega) rfl
      refine ⟨vp_updL f P.length (lN (pr q)), upd g P.length (nI q.length), ?_, ?_⟩
      · unfold ly
        rw [if_neg hn, if_pos (nI_le (by omega) (by omega)), if_neg (nI_in (by omega) (by decide)), if_neg (nI_in (by omega) (by decide)), nI_clamp (by omega), nI_1, List.length_append]
        rfl
      · unfold ly
        rw [if_neg hn]
        exact aB_snoc h q
    · obtain ⟨a, ha⟩ := get_ex (show i < P.length by omega)
      have va := hv a (get_mem ha)
      have he := nm_eq va hq
      rw [if_neg (nI_ge (by omega) (by omega)), if_neg (nI_in (by omega) (by decide)), nI_clamp (by omega), (h i a ha).1, (h i a ha).2]
      by_cases e : a = q
      · have h3 := he.mpr e
        refine ⟨f, g, ?_, ?_⟩
        · have hm : q ∈ P := by rw [← e]; exact get_mem ha
          unfold ly
          rw [if_pos hm, if_pos h3.1, if_neg (nI_in' (show i < 64 by omega) (by decide)), if_pos h3.2]
        · have hm : q ∈ P := by rw [← e]; exact get_mem ha
          unfold ly
          rw [if_pos hm]
          exact h
      · have ih := qm_lay_l h hv hq hl n (i + 1) (by omega) (by omega) (by
          intro k b hk hki
          by_cases e2 : k = i
          · subst e2
            rw [ha] at hk
            injection hk with hk
            rw [← hk]
            exact e
          · exact hI k b hk (by omega))
        rw [nI_1]
        by_cases c1 : lg_cmp (lN (pr a)) (lN (pr q)) = 0
        · rw [if_pos c1, if_neg (nI_in' (show i < 64 by omega) (by decide)), if_neg (fun h3 => e (he.mp ⟨c1, h3⟩))]
          exact ih
        · rw [if_neg c1]
          exact ih
theorem qm_lay {f : Nat → Int64} {g : Nat → Int32} {P : List (List Nat)} (h : aB f g P) (hv : ∀ a ∈ P, vd a) {q : List Nat} (hq : vd q) (hl : P.length < 64) : ∃ f' g', m_M_lay (lN (pr q)) (nI q.length) (nI P.length) f g = some (nI (ly P q).length, f', g') ∧ aB f' g' (ly P q) := by
  unfold m_M_lay
  have := qm_lay_l h hv hq hl 100 0 (Nat.zero_le _) (by omega) (fun k a _ hk => by omega)
  rw [nI_0] at this
  exact this
theorem ly_mem {P : List (List Nat)} {q p : List Nat} : p ∈ ly P q ↔ p ∈ P ∨ p = q := by
  unfold ly
  by_cases c : q ∈ P
  · rw [if_pos c]
    constructor
    · intro h; exact Or.inl h
    · rintro (h | h)
      · exact h
      · rw [h]; exact c
  · rw [if_neg c, List.mem_append]
    simp only [List.mem_cons, List.not_mem_nil, or_false]
theorem ly_nd {P : List (List Nat)} {q : List Nat} (h : P.Nodup) : (ly P q).Nodup := by
  unfold ly
  by_cases c : q ∈ P
  · rw [if_pos c]; exact h
  · rw [if_neg c]; exact nd_snoc h c
theorem isP_vd {S : List (List Nat)} (hS : ∀ a ∈ S, vd a) {p : List Nat} (h : isP S p) : vd p := by
  rcases h with h | h | ⟨a, ha, b, hb, _, e⟩
  · rw [h]; exact vd_nil
  · exact hS p h
  · rw [e]; exact vd_take (hS a ha) _
/-- a table of places that is being made: P, in order, without doubles, all places of S -/
def okP (f : Nat → Int64) (g : Nat → Int32) (S P : List (List Nat)) : Prop := aB f g P ∧ P.Nodup ∧ ∀ p ∈ P, isP S p
theorem okP_len {f : Nat → Int64} {g : Nat → Int32} {S P : List (List Nat)} (h : okP f g S P) (hS : S.length ≤ 25) : P.length < 64 := by
  have := isP_bound S P h.2.1 h.2.2
  omega
theorem qm_layP {f : Nat → Int64} {g : Nat → Int32} {S P : List (List Nat)} (hS : ∀ a ∈ S, vd a) (hl : S.length ≤ 25) (h : okP f g S P) {q : List Nat} (hq : isP S q) : ∃ f' g', m_M_lay (lN (pr q)) (nI q.length) (nI P.length) f g = some (nI (ly P q).length, f', g') ∧ okP f' g' S (ly P q) := by
  obtain ⟨f', g', h1, h2⟩ := qm_lay h.1 (fun a ha => isP_vd hS (h.2.2 a ha)) (isP_vd hS hq) (okP_len h hl)
  refine ⟨f', g', h1, h2, ly_nd h.2.1, ?_⟩
  intro p hp
  rcases ly_mem.mp hp with h3 | h3
  · exact h.2.2 p h3
  · rw [h3]; exact hq
theorem qm_lp_in {F : Nat → Int64} {G : Nat → Int32} {S : List (List Nat)} (hB : aB F G S) (hS : ∀ a ∈ S, vd a) (hN : S.Nodup) (hl : S.length ≤ 25) {i : Nat} {a : List Nat} (hi : S[i]? = some a) : ∀ (n j : Nat) (f : Nat → Int64) (g : Nat → Int32) (P : List (List Nat)), j ≤ i → i - j < n → okP f g S P → ∃ f' g' P', m_M_layPlaces_l39 (nI i) F G n (nI j) f g (nI P.length) = some (nI i, f', g', nI P'.length) ∧ okP f' g' S P' ∧ ∀ p, p ∈ P' ↔ p ∈ P ∨ ∃ k b, j ≤ k ∧ k < i ∧ S[k]? = some b ∧ p = a.take (lc a b)
  | 0, j, f, g, P, _, h2, _ => by omega
  | n + 1, j, f, g, P, h1, h2, hP => by
    have hil := get_lt hi
    rw [m_M_layPlaces_l39]
    by_cases c : j = i
    · subst c
      refine ⟨f, g, P, by rw [if_pos (nI_le (Nat.le_refl _) (by omega))], hP, ?_⟩
      intro p
      constructor
      · intro h; exact Or.inl h
      · rintro (h | ⟨k, b, h3, h4, _⟩)
        · exact h
        · omega
    · obtain ⟨b, hb⟩ := get_ex (show j < S.length by omega)
      have va := hS a (get_mem hi)
      have vb := hS b (get_mem hb)
      have hne : a ≠ b := by
        intro e
        rw [← e] at hb
        have h3 := List.getElem?_eq_some_iff.mp hb
        have h4 := List.getElem?_eq_some_iff.mp hi
        obtain ⟨q1, e1⟩ := h3
        obtain ⟨q2, e2⟩ := h4
        have := List.pairwise_iff_getElem.mp hN j i q1 q2 (by omega)
        exact this (e1.trans e2.symm)
      have hlc := lc_le a b
      have va7 := va.1
      have lt : (a.take (lc a b)).length = lc a b := by rw [List.length_take]; omega
      obtain ⟨f', g', e1, hP'⟩ := qm_layP hS hl hP (q := a.take (lc a b)) (Or.inr (Or.inr ⟨a, get_mem hi, b, get_mem hb, hne, rfl⟩))
      rw [lt] at e1
      obtain ⟨f2, g2, P2, e2, hP2, hM2⟩ := qm_lp_in hB hS hN hl hi n (j + 1) f' g' _ (by omega) (by omega) hP'
      refine ⟨f2, g2, P2, ?_, hP2, ?_⟩
      · rw [if_neg (nI_ge (by omega) (by omega)), if_neg (nI_in (by omega) (by decide)), if_neg (nI_in (by omega) (by decide)), if_neg (nI_in (by omega) (by decide)), if_neg (nI_in (by omega) (by decide)), nI_clamp (by omega), nI_clamp (by omega), (hB i a hi).1, (hB i a hi).2, (hB j b hb).1, (hB j b hb).2, qm_com va vb, Option.bind_some, if_neg (nI_in' (show i < 25 by omega) (by decide)), qm_first va (by omega), Option.bind_some, e1, Option.bind_some, nI_1]
        exact e2
      · intro p
        rw [hM2 p, ly_mem]
        constructor
        · rintro ((h | h) | ⟨k, d, h3, h4, h5⟩)
          · exact Or.inl h
          · exact Or.inr ⟨j, b, Nat.le_refl _, by omega, hb, h⟩
          · exact Or.inr ⟨k, d, by omega, h4, h5⟩
        · rintro (h | ⟨k, d, h3, h4, h5, h6⟩)
          · exact Or.inl (Or.inl h)
          · by_cases e : k = j
            · subst e
              rw [hb] at h5
              injection h5 with h5
              rw [← h5] at h6
              exact Or.inl (Or.inr h6)
            · exact Or.inr ⟨k, d, by omega, h4, h5, h6⟩
def mI (S : List (List Nat)) (i : Nat) (p : List Nat) : Prop := p = [] ∨ (∃ k, k < i ∧ S[k]? = some p) ∨ ∃ k l a b, k < i ∧ l < k ∧ S[k]? = some a ∧ S[l]? = some b ∧ p = a.take (lc a b)
theorem mI_succ {S : List (List Nat)} {i : Nat} {a : List Nat} (hi : S[i]? = some a) (p : List Nat) : mI S (i + 1) p ↔ (mI S i p ∨ p = a) ∨ ∃ k b, 0 ≤ k ∧ k < i ∧ S[k]? = some b ∧ p = a.take (lc a b) := by
  unfold mI
  constructor
  · rintro (h | ⟨k, h1, h2⟩ | ⟨k, l, x, y, h1, h2, h3, h4, h5⟩)
    · exact Or.inl (Or.inl (Or.inl h))
    · by_cases e : k = i
      · subst e
        rw [hi] at h2
        injection h2 with h2
        exact Or.inl (Or.inr h2.symm)
      · exact Or.inl (Or.inl (Or.inr (Or.inl ⟨k, by omega, h2⟩)))
    · by_cases e : k = i
      · subst e
        rw [hi] at h3
        injection h3 with h3
        subst h3
        exact Or.inr ⟨l, y, Nat.zero_le _, h2, h4, h5⟩
      · exact Or.inl (Or.inl (Or.inr (Or.inr ⟨k, l, x, y, by omega, h2, h3, h4, h5⟩)))
  · rintro (((h | ⟨k, h1, h2⟩ | ⟨k, l, x, y, h1, h2, h3, h4, h5⟩) | h) | ⟨k, b, _, h1, h2, h3⟩)
    · exact Or.inl h
    · exact Or.inr (Or.inl ⟨k, by omega, h2⟩)
    · exact Or.inr (Or.inr ⟨k, l, x, y, by omega, h2, h3, h4, h5⟩)
    · exact Or.inr (Or.inl ⟨i, by omega, by rw [hi, h]⟩)
    · exact Or.inr (Or.inr ⟨i, k, a, b, by omega, h1, hi, h2, h3⟩)
theorem nd_ix {α : Type} {l : List α} (h : l.Nodup) {i j : Nat} {a : α} (hi : l[i]? = some a) (hj : l[j]? = some a) : i = j := by
  obtain ⟨q1, e1⟩ := List.getElem?_eq_some_iff.mp hi
  obtain ⟨q2, e2⟩ := List.getElem?_eq_some_iff.mp hj
  rcases Nat.lt_trichotomy i j with c | c | c
  · exact absurd (e1.trans e2.symm) (List.pairwise_iff_getElem.mp h i j q1 q2 c)
  · exact c
  · exact absurd (e2.trans e1.symm) (List.pairwise_iff_getElem.mp h j i q2 q1 c)
theorem mI_all {S : List (List Nat)} (hN : S.Nodup) (p : List Nat) : mI S S.length p ↔ isP S p := by
  unfold mI isP
  constructor
  · rintro (h | ⟨k, h1, h2⟩ | ⟨k, l, x, y, h1, h2, h3, h4, h5⟩)
    · exact Or.inl h
    · exact Or.inr (Or.inl (get_mem h2))
    · refine Or.inr (Or.inr ⟨x, get_mem h3, y, get_mem h4, ?_, h5⟩)
      intro e
      rw [← e] at h4
      have := nd_ix hN h3 h4
      omega
  · rintro (h | h | ⟨x, hx, y, hy, hn, e⟩)
    · exact Or.inl h
    · obtain ⟨k, hk⟩ := List.mem_iff_getElem?.mp h
      exact Or.inr (Or.inl ⟨k, get_lt hk, hk⟩)
    · obtain ⟨k, hk⟩ := List.mem_iff_getElem?.mp hx
      obtain ⟨l, hl⟩ := List.mem_iff_getElem?.mp hy
      rcases Nat.lt_trichotomy k l with c | c | c
      · exact Or.inr (Or.inr ⟨l, k, y, x, get_lt hl, c, hl, hk, by rw [e, lc_take x y, lc_comm x y]⟩)
      · subst c
        rw [hk] at hl
        injection hl with hl
        exact absurd hl hn
      · exact Or.inr (Or.inr ⟨k, l, x, y, get_lt hk, c, hk, hl, e⟩)
theorem qm_lp_out {F : Nat → Int64} {G : Nat → Int32} {S : List (List Nat)} (hB : aB F G S) (hS : ∀ a ∈ S, vd a) (hN : S.Nodup) (hl : S.length ≤ 25) : ∀ (n i : Nat) (f : Nat → Int64) (g : Nat → Int32) (P : List (List Nat)), i ≤ S.length → S.length - i < n → okP f g S P → (∀ p, p ∈ P ↔ mI S i p) → ∃ f' g' P', m_M_layPlaces_l13 F G (nI S.length) n (nI i) f g (nI P.length) = some (nI S.length, f', g', nI P'.length) ∧ okP f' g' S P' ∧ ∀ p, p ∈ P' ↔ isP S p
  | 0, i, f, g, P, _, h2, _, _ => by omega
  | n + 1, i, f, g, P, h1, h2, hP, hM => by
    rw [m_M_layPlaces_l13]
    by_cases c : i = S.length
    · subst c
      refine ⟨f, g, P, by rw [if_pos (nI_le (Nat.le_refl _) (by omega))], hP, ?_⟩
      intro p
      rw [hM p, mI_all hN]
    · obtain ⟨a, hi⟩ := get_ex (show i < S.length by omega)
      obtain ⟨f', g', e1, hP'⟩ := qm_layP hS hl hP (q := a) (Or.inr (Or.inl (get_mem hi)))
      obtain ⟨f2, g2, P2, e2, hP2, hM2⟩ := qm_lp_in hB hS hN hl hi 100 0 f' g' _ (Nat.zero_le _) (by omega) hP'
      have e2' : m_M_layPlaces_l39 (nI i) F G 100 0 f' g' (nI (ly P a).length) = some (nI i, f2, g2, nI P2.length) := e2
      obtain ⟨f3, g3, P3, e3, hP3, hM3⟩ := qm_lp_out hB hS hN hl n (i + 1) f2 g2 P2 (by omega) (by omega) hP2 (by
        intro p
        rw [hM2 p, ly_mem, hM p, mI_succ hi])
      refine ⟨f3, g3, P3, ?_, hP3, hM3⟩
      rw [if_neg (nI_ge (by omega) (by omega)), if_neg (nI_in (by omega) (by decide)), if_neg (nI_in (by omega) (by decide)), nI_clamp (by omega), (hB i a hi).1, (hB i a hi).2, e1, Option.bind_some, e2', Option.bind_some, nI_1]
      exact e3
theorem qm_lp {F : Nat → Int64} {G : Nat → Int32} {S : List (List Nat)} (hB : aB F G S) (hS : ∀ a ∈ S, vd a) (hN : S.Nodup) (hl : S.length ≤ 25) (f : Nat → Int64) (g : Nat → Int32) : ∃ f' g' P, m_M_layPlaces (nI S.length) F G f g = some (nI P.length, f', g') ∧ okP f' g' S P ∧ ∀ p, p ∈ P ↔ isP S p := by
  have h0 : okP f g S [] := ⟨fun i a hi => by simp at hi, by simp, fun p hp => absurd hp List.not_mem_nil⟩
  obtain ⟨f', g', e1, hP'⟩ := qm_layP hS hl h0 (q := []) (Or.inl rfl)
  have e1' : m_M_lay 0 0 0 f g = some (nI (ly [] []).length, f', g') := e1
  obtain ⟨f2, g2, P2, e2, hP2, hM2⟩ := qm_lp_out hB hS hN hl 100 0 f' g' _ (Nat.zero_le _) (by omega) hP' (by
    intro p
    rw [ly_mem]
    unfold mI
    constructor
    · rintro (h | h)
      · exact absurd h List.not_mem_nil
      · exact Or.inl h
    · rintro (h | ⟨k, h1, _⟩ | ⟨k, l, x, y, h1, _⟩)
      · exact Or.inr h
      · omega
      · omega)
  have e2' : m_M_layPlaces_l13 F G (nI S.length) 100 0 f' g' (nI (ly [] []).length) = some (nI S.length, f2, g2, nI P2.length) := e2
  refine ⟨f2, g2, P2, ?_, hP2, hM2⟩
  unfold m_M_layPlaces
  rw [e1', Option.bind_some, e2']; rfl
/-! how many places are beginnings -/
def bg2 (a b p : List Nat) : Bool := decide (p = a.take p.length) || decide (p = b.take p.length)
theorem qm_bg_l {f : Nat → Int64} {g : Nat → Int32} {P : List (List Nat)} (h : aB f g P) (hv : ∀ p ∈ P, vd p) (hl : P.length < 64) {a b : List Nat} (ha : vd a) (hb : vd b) : ∀ (n i c : Nat), i ≤ P.length → P.length - i < n → m_M_beginnings_l6 (lN (pr a)) (nI a.length) (lN (pr b)) (nI b.length) f g (nI P.length) n (nI c) (nI i) = some (nI (c + ((P.drop i).filter (bg2 a b)).length), nI P.length)
  | 0, i, c, _, h2 => by omega
  | n + 1, i, c, h1, h2 => by
    rw [m_M_beginnings_l6]
    by_cases e : i = P.length
    · subst e
      rw [if_pos (nI_le (Nat.le_refl _) (by omega)), List.drop_length]
      rfl
    · have hil : i < P.length := by omega
      obtain ⟨p, hp⟩ := get_ex hil
      have vp := hv p (get_mem hp)
      have ed : P.drop i = p :: P.drop (i + 1) := by
        rw [List.drop_eq_getElem_cons hil]
        congr 1
        exact (List.getElem?_eq_some_iff.mp hp).2
      rw [if_neg (nI_ge (by omega) (by omega)), if_neg (nI_in (by omega) (by decide)), if_neg (nI_in (by omega) (by decide)), nI_clamp (by omega), (h i p hp).1, (h i p hp).2, qm_begins vp ha, Option.bind_some, ed]
      by_cases c1 : p = a.take p.length
      · have e1 : bg2 a b p = true := by unfold bg2; rw [decide_eq_true c1]; rfl
        rw [if_pos c1, if_neg (by decide), if_neg (by decide), nI_1, nI_1, qm_bg_l h hv hl ha hb n (i + 1) (c + 1) (by omega) (by omega), List.filter_cons_of_pos e1, List.length_cons]
        congr 3
        omega
      · rw [if_neg c1, if_pos rfl, if_neg (nI_in' (show i < 64 by omega) (by decide)), if_neg (nI_in' (show i < 64 by omega) (by decide)), qm_begins vp hb, Option.bind_some]
        by_cases c2 : p = b.take p.length
        · have e1 : bg2 a b p = true := by unfold bg2; rw [decide_eq_true c2, Bool.or_true]
          rw [if_pos c2, if_neg (by decide), if_neg (by decide), nI_1, nI_1, qm_bg_l h hv hl ha hb n (i + 1) (c + 1) (by omega) (by omega), List.filter_cons_of_pos e1, List.length_cons]
          congr 3
          omega
        · have e1 : ¬ bg2 a b p = true := by unfold bg2; rw [decide_eq_false c1, decide_eq_false c2]; decide
          rw [if_neg c2, if_pos rfl, if_pos rfl, nI_1, qm_bg_l h hv hl ha hb n (i + 1) c (by omega) (by omega), List.filter_cons_of_neg e1]
theorem qm_bg {f : Nat → Int64} {g : Nat → Int32} {P : List (List Nat)} (h : aB f g P) (hv : ∀ p ∈ P, vd p) (hl : P.length < 64) {a b : List Nat} (ha : vd a) (hb : vd b) : m_M_beginnings (lN (pr a)) (nI a.length) (lN (pr b)) (nI b.length) (nI P.length) f g = some (nI (P.filter (bg2 a b)).length) := by
  unfold m_M_beginnings
  have := qm_bg_l h hv hl ha hb 100 0 0 (Nat.zero_le _) (by omega)
  rw [nI_0, Nat.zero_add, List.drop_zero] at this
  rw [this]; rfl
