theorem nI_in' {c N : Nat} (h : c < N) (hN : N < 2 ^ 31) : ¬ (nI c < 0 ∨ N ≤ c) := fun h2 => h2.elim (nI_pos (by omega)) (fun h3 => by omega)
/-! Places. -/
def isP (S : List (List Nat)) (p : List Nat) : Prop := p = [] ∨ p ∈ S ∨ ∃ a ∈ S, ∃ b ∈ S, a ≠ b ∧ p = a.take (lc a b)
def bgn (p s : List Nat) : Prop := p = s.take p.length
theorem bgn_take (s : List Nat) (m : Nat) : bgn (s.take m) s := by
  unfold bgn
  rw [List.length_take]
  rcases Nat.le_total m s.length with h | h
  · rw [Nat.min_eq_left h]
  · rw [Nat.min_eq_right h, List.take_of_length_le h, List.take_length]
theorem bgn_len {p s : List Nat} (h : bgn p s) : p.length ≤ s.length := by
  have := congrArg List.length h
  rw [List.length_take] at this
  omega
theorem bgn_self (s : List Nat) : bgn s s := by unfold bgn; rw [List.take_length]
theorem bgn_nil (s : List Nat) : bgn [] s := rfl
theorem isP_row {S : List (List Nat)} {p : List Nat} (h : isP S p) (hp : p ≠ []) : ∃ b ∈ S, bgn p b := by
  rcases h with h | h | ⟨a, ha, b, hb, hn, e⟩
  · exact absurd h hp
  · exact ⟨p, h, bgn_self p⟩
  · exact ⟨a, ha, by rw [e]; exact bgn_take a _⟩
theorem isP_perm {S T : List (List Nat)} (h : S.Perm T) {p : List Nat} : isP S p ↔ isP T p := by
  have hm : ∀ x, x ∈ S ↔ x ∈ T := fun x => h.mem_iff
  unfold isP
  constructor
  · intro h1
    rcases h1 with h1 | h1 | ⟨a, ha, b, hb, h2⟩
    · exact Or.inl h1
    · exact Or.inr (Or.inl ((hm p).mp h1))
    · exact Or.inr (Or.inr ⟨a, (hm a).mp ha, b, (hm b).mp hb, h2⟩)
  · intro h1
    rcases h1 with h1 | h1 | ⟨a, ha, b, hb, h2⟩
    · exact Or.inl h1
    · exact Or.inr (Or.inl ((hm p).mpr h1))
    · exact Or.inr (Or.inr ⟨a, (hm a).mpr ha, b, (hm b).mpr hb, h2⟩)
theorem rk_tmono {s t : List Nat} (hs : vd s) (ht : vd t) (h : rk 7 s ≤ rk 7 t) {m : Nat} (hm : m ≤ 7) : rk 7 (s.take m) ≤ rk 7 (t.take m) := by
  rw [rk_take 7 m s (vd_512 hs) hm, rk_take 7 m t (vd_512 ht) hm]
  exact Nat.mul_le_mul_right _ (Nat.div_le_div_right h)
theorem rk_tle {s : List Nat} (hs : vd s) {m : Nat} (hm : m ≤ 7) : rk 7 (s.take m) ≤ rk 7 s := by
  rw [rk_take 7 m s (vd_512 hs) hm]
  exact Nat.div_mul_le_self _ _
theorem sandw {a x b : List Nat} (ha : vd a) (hx : vd x) (hb : vd b) (h1 : rk 7 a ≤ rk 7 x) (h2 : rk 7 x ≤ rk 7 b) {m : Nat} (hm : m ≤ 7) (e : a.take m = b.take m) : x.take m = a.take m := by
  have h3 := rk_tmono ha hx h1 hm
  have h4 := rk_tmono hx hb h2 hm
  rw [← e] at h4
  exact vd_inj (vd_take hx m) (vd_take ha m) (by omega)
theorem take_le_take {a b : List Nat} {k m : Nat} (h : a.take m = b.take m) (hk : k ≤ m) : a.take k = b.take k := by
  have := congrArg (List.take k) h
  rwa [List.take_take, List.take_take, Nat.min_eq_left hk] at this
theorem lc_ultra {x b c : List Nat} (h : lc x b < lc x c) : lc b c = lc x b := by
  have l1 := lc_le x b
  have l2 := lc_le x c
  have t1 := lc_take x b
  have t2 := lc_take x c
  apply Nat.le_antisymm
  · apply Nat.le_of_not_lt
    intro h3
    have l3 := lc_le b c
    have t3 := take_le_take (lc_take b c) (show lc x b + 1 ≤ lc b c by omega)
    have t4 := take_le_take t2 (show lc x b + 1 ≤ lc x c by omega)
    have := lc_max x b (lc x b + 1) (by omega) (by omega) (by rw [t4, t3])
    omega
  · apply lc_max b c _ (by omega) (by omega)
    rw [← t1]
    exact take_le_take t2 (by omega)
theorem ex_max (f : List Nat → Nat) : ∀ (S : List (List Nat)), S ≠ [] → ∃ b ∈ S, ∀ c ∈ S, f c ≤ f b
  | [], h => absurd rfl h
  | [a], _ => ⟨a, List.mem_cons_self, fun c hc => by
    simp only [List.mem_cons, List.not_mem_nil, or_false] at hc
    rw [hc]; exact Nat.le_refl _⟩
  | a :: b :: t, _ => by
    obtain ⟨c, hc, hm⟩ := ex_max f (b :: t) (by simp)
    rcases Nat.le_total (f a) (f c) with h | h
    · refine ⟨c, List.mem_cons_of_mem _ hc, fun d hd => ?_⟩
      rcases List.mem_cons.mp hd with e | e
      · rw [e]; exact h
      · exact hm d e
    · refine ⟨a, List.mem_cons_self, fun d hd => ?_⟩
      rcases List.mem_cons.mp hd with e | e
      · rw [e]; exact Nat.le_refl _
      · exact Nat.le_trans (hm d e) h
theorem isP_cons {x : List Nat} {S : List (List Nat)} : ∃ q, ∀ p, isP (x :: S) p → isP S p ∨ p = x ∨ p = q := by
  by_cases hS : S = []
  · subst hS
    refine ⟨x, fun p h => ?_⟩
    rcases h with h | h | ⟨a, ha, b, hb, hn, e⟩
    · exact Or.inl (Or.inl h)
    · simp only [List.mem_cons, List.not_mem_nil, or_false] at h
      exact Or.inr (Or.inl h)
    · simp only [List.mem_cons, List.not_mem_nil, or_false] at ha hb
      exact absurd (ha.trans hb.symm) hn
  · obtain ⟨c, hc, hm⟩ := ex_max (fun b => lc x b) S hS
    have key : ∀ b, b ∈ S → isP S (x.take (lc x b)) ∨ x.take (lc x b) = x.take (lc x c) := by
      intro b hb
      rcases Nat.lt_or_ge (lc x b) (lc x c) with h | h
      · left
        refine Or.inr (Or.inr ⟨b, hb, c, hc, fun e => by rw [e] at h; omega, ?_⟩)
        rw [lc_ultra h]
        exact lc_take x b
      · right
        have h2 : lc x b = lc x c := Nat.le_antisymm (hm b hb) h
        rw [h2]
    refine ⟨x.take (lc x c), fun p h => ?_⟩
    rcases h with h | h | ⟨a, ha, b, hb, hn, e⟩
    · exact Or.inl (Or.inl h)
    · rcases List.mem_cons.mp h with h | h
      · exact Or.inr (Or.inl h)
      · exact Or.inl (Or.inr (Or.inl h))
    · rcases List.mem_cons.mp ha with ha' | ha'
      · rcases List.mem_cons.mp hb with hb' | hb'
        · exact absurd (ha'.trans hb'.symm) hn
        · rw [ha'] at e
          rw [e]
          rcases key b hb' with h | h
          · exact Or.inl h
          · exact Or.inr (Or.inr h)
      · rcases List.mem_cons.mp hb with hb' | hb'
        · rw [e, lc_take a b, lc_comm a b, hb']
          rcases key a ha' with h | h
          · exact Or.inl h
          · exact Or.inr (Or.inr h)
        · exact Or.inl (Or.inr (Or.inr ⟨a, ha', b, hb', hn, e⟩))
theorem len_erase2 {P : List (List Nat)} (x : List Nat) : P.length ≤ (P.erase x).length + 1 := by
  rw [List.length_erase]
  split <;> omega
theorem isP_bound : ∀ (S P : List (List Nat)), P.Nodup → (∀ p ∈ P, isP S p) → P.length ≤ 2 * S.length + 1
  | [], P, hn, h => by
    have : P ⊆ [[]] := by
      intro p hp
      rcases h p hp with h | h | ⟨a, ha, _⟩
      · rw [h]; exact List.mem_cons_self
      · exact absurd h List.not_mem_nil
      · exact absurd ha List.not_mem_nil
    have := hn.length_le_of_subset this
    simpa using this
  | x :: S, P, hn, h => by
    obtain ⟨q, hq⟩ := isP_cons (x := x) (S := S)
    have n1 := hn.erase x
    have n2 := n1.erase q
    have := isP_bound S ((P.erase x).erase q) n2 (by
      intro p hp
      have h1 := (n1.mem_erase_iff).mp hp
      have h2 := (hn.mem_erase_iff).mp h1.2
      rcases hq p (h p h2.2) with h3 | h3 | h3
      · exact h3
      · exact absurd h3 h2.1
      · exact absurd h3 h1.1)
    have a1 := len_erase2 (P := P) x
    have a2 := len_erase2 (P := P.erase x) q
    rw [List.length_cons]
    omega
theorem nd_len {P Q : List (List Nat)} (hP : P.Nodup) (hQ : Q.Nodup) (h : ∀ p, p ∈ P ↔ p ∈ Q) : P.length = Q.length := ((List.perm_ext_iff_of_nodup hP hQ).mpr h).length_eq
/-! the system's isPlace -/
theorem qs_has {f : Nat → Int64} {R : List (List Nat)} (h : okR f R) {i : Nat} {a p : List Nat} (hi : R[i]? = some a) (hp : vd p) {m : Nat} (hm : m ≤ 7) : m_RowSet_hasBeginning (nI i) (lN (rk 7 p)) (nI m) f = some (if a.take m = p then 1 else 0) := by
  have hl := h.2.2.2
  have := get_lt hi
  have va := h.2.2.1 a (get_mem hi)
  unfold m_RowSet_hasBeginning
  rw [if_neg (nI_in (by omega) (by decide)), nI_clamp (by omega), h.1 i a hi, qc_beg va hm, Option.bind_some]
  by_cases e : a.take m = p
  · rw [if_pos e, if_pos ((cmp_eq (vd_lt (vd_take va m)) (vd_lt hp)).mpr (by rw [e]))]
  · rw [if_neg e, if_neg (fun h2 => e (vd_inj (vd_take va m) hp ((cmp_eq (vd_lt (vd_take va m)) (vd_lt hp)).mp h2)))]
theorem qs_last {f : Nat → Int64} {R : List (List Nat)} (h : okR f R) {p : List Nat} (hp : vd p) {m : Nat} (hm : m ≤ 7) : ∀ (n i : Nat) (a : List Nat), R[i]? = some a → a.take m = p → R.length - i < n → ∃ j b, m_RowSet_isPlace_l27 (nI m) (lN (rk 7 p)) f (nI R.length) n (nI i) = some (nI j) ∧ i ≤ j ∧ R[j]? = some b ∧ b.take m = p ∧ ∀ c, R[j + 1]? = some c → c.take m ≠ p
  | 0, _, _, _, _, h2 => by omega
  | n + 1, i, a, hi, ha, h2 => by
    have hl := h.2.2.2
    have hil := get_lt hi
    rw [m_RowSet_isPlace_l27, nI_1]
    by_cases c1 : R.length ≤ i + 1
    · refine ⟨i, a, ?_, Nat.le_refl _, hi, ha, ?_⟩
      · rw [if_pos (nI_le c1 (by omega))]
      · intro c hc
        have := get_lt hc
        omega
    · obtain ⟨b, hb⟩ := get_ex (show i + 1 < R.length by omega)
      rw [if_neg (nI_ge (by omega) (by omega)), qs_has h hb hp hm, Option.bind_some]
      by_cases c2 : b.take m = p
      · rw [if_pos c2, if_neg (by decide)]
        obtain ⟨j, d, h3, h4, h5⟩ := qs_last h hp hm n (i + 1) b hb c2 (by omega)
        exact ⟨j, d, h3, by omega, h5⟩
      · refine ⟨i, a, ?_, Nat.le_refl _, hi, ha, ?_⟩
        · rw [if_neg c2, if_pos rfl]
        · intro c hc
          rw [hb] at hc
          injection hc with hc
          rw [← hc]
          exact c2
theorem qs_isP {f : Nat → Int64} {R : List (List Nat)} (h : okR f R) {i : Nat} {a : List Nat} (hi : R[i]? = some a) {m : Nat} (hm1 : 1 ≤ m) (hm : m ≤ a.length) (hf : ∀ k b, k < i → R[k]? = some b → b.take m ≠ a.take m) : ∃ u, m_RowSet_isPlace (nI i) (nI m) f (nI R.length) = some u ∧ (u = 0 ↔ ¬ isP R (a.take m)) := by
  have hl := h.2.2.2
  have hil := get_lt hi
  have va := h.2.2.1 a (get_mem hi)
  have va7 := va.1
  have vp := vd_take va m
  have lp : (a.take m).length = m := by rw [List.length_take]; omega
  have pn : a.take m ≠ [] := fun e => by rw [e] at lp; simp at lp; omega
  unfold m_RowSet_isPlace
  rw [if_neg (nI_in (by omega) (by decide)), nI_clamp (by omega), h.1 i a hi, qc_beg va (by omega), Option.bind_some, if_neg (nI_in' (show i < 24 by omega) (by decide))]
  by_cases c1 : a = a.take m
  · refine ⟨1, ?_, ?_⟩
    · rw [if_pos ((cmp_eq (vd_lt va) (vd_lt vp)).mpr (congrArg (rk 7) c1))]
    · constructor
      · intro e; exact absurd e (by decide)
      · intro e
        exact absurd (Or.inr (Or.inl (by rw [← c1]; exact get_mem hi))) e
  · have hma : m < a.length := by
      apply Nat.lt_of_not_le
      intro h3
      exact c1 (by rw [List.take_of_length_le h3])
    rw [if_neg (fun h3 => c1 (vd_inj va vp ((cmp_eq (vd_lt va) (vd_lt vp)).mp h3)))]
    obtain ⟨j, b, e1, hij, hb, hbp, hlast⟩ := qs_last h vp (show m ≤ 7 by omega) 100 i a hi rfl (by omega)
    have hjl := get_lt hb
    have vb := h.2.2.1 b (get_mem hb)
    rw [e1, Option.bind_some, if_neg (nI_in' (show i < 24 by omega) (by decide)), nI_1, qc_beg va (by omega), Option.bind_some, if_neg (nI_in (by omega) (by decide)), nI_clamp (by omega), h.1 j b hb, qc_beg vb (by omega), Option.bind_some]
    have inblk : ∀ x, x ∈ R → bgn (a.take m) x → rk 7 a ≤ rk 7 x ∧ rk 7 x ≤ rk 7 b ∧ x.take m = a.take m := by
      intro x hx hbx
      have hxm : x.take m = a.take m := by unfold bgn at hbx; rw [lp] at hbx; exact hbx.symm
      obtain ⟨k, hk⟩ := List.mem_iff_getElem?.mp hx
      have vx := h.2.2.1 x hx
      have k1 : i ≤ k := by
        apply Nat.le_of_not_lt
        intro h3
        exact hf k x h3 hk hxm
      have k2 : k ≤ j := by
        apply Nat.le_of_not_lt
        intro h3
        obtain ⟨c, hc⟩ := get_ex (show j + 1 < R.length by have := get_lt hk; omega)
        have vc := h.2.2.1 c (get_mem hc)
        have := sandw va vc vx (srt_le h.2.1 hi hc (by omega)) (srt_le h.2.1 hc hk (by omega)) (show m ≤ 7 by omega) hxm.symm
        exact hlast c hc this
      exact ⟨srt_le h.2.1 hi hk k1, srt_le h.2.1 hk hb k2, hxm⟩
    have vp1 := vd_lt (vd_take va (m + 1))
    have vp2 := vd_lt (vd_take vb (m + 1))
    by_cases c2 : a.take (m + 1) = b.take (m + 1)
    · refine ⟨0, ?_, ?_⟩
      · rw [if_pos ((cmp_eq vp1 vp2).mpr (by rw [c2]))]
      · refine ⟨fun _ hP => ?_, fun _ => rfl⟩
        rcases hP with e | e | ⟨x, hx, y, hy, hn, e⟩
        · exact pn e
        · have := inblk _ e (bgn_self _)
          have h4 := rk_tle va (show m ≤ 7 by omega)
          exact c1 (vd_inj va vp (by omega))
        · have bx : bgn (a.take m) x := by rw [e]; exact bgn_take x _
          have by' : bgn (a.take m) y := by rw [e, lc_take x y]; exact bgn_take y _
          have ix := inblk x hx bx
          have iy := inblk y hy by'
          have vx := h.2.2.1 x hx
          have vy := h.2.2.1 y hy
          have tx := sandw va vx vb ix.1 ix.2.1 (show m + 1 ≤ 7 by omega) c2
          have ty := sandw va vy vb iy.1 iy.2.1 (show m + 1 ≤ 7 by omega) c2
          have lx := congrArg List.length tx
          have ly := congrArg List.length ty
          rw [List.length_take, List.length_take] at lx ly
          have h5 := lc_max x y (m + 1) (by omega) (by omega) (by rw [tx, ty])
          have h6 := congrArg List.length e
          rw [lp, List.length_take] at h6
          omega
    · refine ⟨1, ?_, ?_⟩
      · rw [if_neg (fun h3 => c2 (vd_inj (vd_take va _) (vd_take vb _) ((cmp_eq vp1 vp2).mp h3)))]
      · refine ⟨fun e => absurd e (by decide), fun hP => absurd ?_ hP⟩
        have hn : a ≠ b := fun e => c2 (by rw [e])
        refine Or.inr (Or.inr ⟨a, get_mem hi, b, get_mem hb, hn, ?_⟩)
        have lb := congrArg List.length hbp
        rw [List.length_take, List.length_take] at lb
        have h7 := lc_max a b m (by omega) (by omega) hbp.symm
        have h8 : lc a b = m := by
          apply Nat.le_antisymm _ h7
          apply Nat.le_of_not_lt
          intro h9
          exact c2 (take_le_take (lc_take a b) (by omega))
        rw [h8]
