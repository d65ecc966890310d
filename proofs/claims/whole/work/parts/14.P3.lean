/-! A set of rows: the arrays and the list. -/
def aR (f : Nat → Int64) (R : List (List Nat)) : Prop := ∀ i a, R[i]? = some a → f i = lN (rk 7 a)
def srt (R : List (List Nat)) : Prop := R.Pairwise (fun a b => rk 7 a < rk 7 b)
def okR (f : Nat → Int64) (R : List (List Nat)) : Prop := aR f R ∧ srt R ∧ (∀ a ∈ R, vd a) ∧ R.length ≤ 24
theorem get_lt {α : Type} {l : List α} {i : Nat} {a : α} (h : l[i]? = some a) : i < l.length := (List.getElem?_eq_some_iff.mp h).1
theorem get_mem {α : Type} {l : List α} {i : Nat} {a : α} (h : l[i]? = some a) : a ∈ l := List.mem_iff_getElem?.mpr ⟨i, h⟩
theorem get_ex {α : Type} {l : List α} {i : Nat} (h : i < l.length) : ∃ a, l[i]? = some a := ⟨_, List.getElem?_eq_getElem h⟩
theorem srt_get {R : List (List Nat)} (h : srt R) {i j : Nat} {a b : List Nat} (ha : R[i]? = some a) (hb : R[j]? = some b) (hij : i < j) : rk 7 a < rk 7 b := by
  obtain ⟨h1, e1⟩ := List.getElem?_eq_some_iff.mp ha
  obtain ⟨h2, e2⟩ := List.getElem?_eq_some_iff.mp hb
  have := List.pairwise_iff_getElem.mp h i j h1 h2 hij
  rw [e1, e2] at this
  exact this
theorem srt_le {R : List (List Nat)} (h : srt R) {i j : Nat} {a b : List Nat} (ha : R[i]? = some a) (hb : R[j]? = some b) (hij : i ≤ j) : rk 7 a ≤ rk 7 b := by
  rcases Nat.lt_or_ge i j with h1 | h1
  · exact Nat.le_of_lt (srt_get h ha hb h1)
  · have e : i = j := by omega
    subst e
    rw [ha] at hb
    injection hb with hb
    rw [hb]
    exact Nat.le_refl _
theorem srt_inv {R : List (List Nat)} (h : srt R) {i j : Nat} {a b : List Nat} (ha : R[i]? = some a) (hb : R[j]? = some b) (hr : rk 7 a < rk 7 b) : i < j := by
  apply Nat.lt_of_not_le
  intro h1
  have := srt_le h hb ha h1
  omega
theorem srt_nodup {R : List (List Nat)} (h : srt R) : R.Nodup := List.Pairwise.imp (fun {a b} h e => by rw [e] at h; exact absurd h (Nat.lt_irrefl _)) h
theorem cpyOK {sp dp n N M : Nat} (h1 : sp + n ≤ N) (h2 : dp + n ≤ M) (hN : N < 2 ^ 31) (hM : M < 2 ^ 31) : ¬ (nI sp < 0 ∨ nI dp < 0 ∨ nI n < 0 ∨ N < (nI sp).toNatClampNeg + (nI n).toNatClampNeg ∨ M < (nI dp).toNatClampNeg + (nI n).toNatClampNeg) := by
  rw [nI_clamp (show sp < 2 ^ 31 by omega), nI_clamp (show dp < 2 ^ 31 by omega), nI_clamp (show n < 2 ^ 31 by omega)]
  intro h
  rcases h with h | h | h | h | h
  · exact nI_pos (by omega) h
  · exact nI_pos (by omega) h
  · exact nI_pos (by omega) h
  · omega
  · omega
theorem qs_before_l {f : Nat → Int64} {R : List (List Nat)} (h : okR f R) {y : Nat} (hy : y < 2 ^ 63) : ∀ (n i : Nat), i ≤ R.length → R.length - i < n → (∀ k a, R[k]? = some a → k < i → rk 7 a < y) → ∃ j, j ≤ R.length ∧ m_RowSet_rowsBefore_l2 (lN y) f (nI R.length) n (nI i) = some (nI j) ∧ ∀ k a, R[k]? = some a → (k < j ↔ rk 7 a < y)
  | 0, _, _, h2, _ => by omega
  | n + 1, i, h1, h2, hI => by
    have hl := h.2.2.2
    rw [m_RowSet_rowsBefore_l2]
    by_cases e : i = R.length
    · refine ⟨i, h1, ?_, ?_⟩
      · rw [if_pos (nI_le (by omega) (by omega))]
      · intro k a hk
        have := get_lt hk
        exact ⟨fun _ => hI k a hk (by omega), fun _ => by omega⟩
    · obtain ⟨b, hb⟩ := get_ex (show i < R.length by omega)
      have vb := vd_lt (h.2.2.1 b (get_mem hb))
      rw [if_neg (nI_ge (by omega) (by omega)), if_neg (nI_in (by omega) (by decide)), nI_clamp (by omega), h.1 i b hb]
      by_cases hc : y ≤ rk 7 b
      · refine ⟨i, h1, ?_, ?_⟩
        · rw [if_pos ((cmp_ge vb hy).mpr hc)]
        · intro k a hk
          refine ⟨fun hki => hI k a hk hki, fun hr => ?_⟩
          exact srt_inv h.2.1 hk hb (by omega)
      · rw [if_neg (fun h3 => hc ((cmp_ge vb hy).mp h3)), nI_1]
        apply qs_before_l h hy n (i + 1) (by omega) (by omega)
        intro k a hk hki
        by_cases e2 : k = i
        · subst e2
          rw [hb] at hk
          injection hk with hk
          rw [← hk]
          omega
        · exact hI k a hk (by omega)
theorem qs_before {f : Nat → Int64} {R : List (List Nat)} (h : okR f R) {y : Nat} (hy : y < 2 ^ 63) : ∃ j, j ≤ R.length ∧ m_RowSet_rowsBefore (lN y) f (nI R.length) = some (nI j) ∧ ∀ k a, R[k]? = some a → (k < j ↔ rk 7 a < y) := by
  have hl := h.2.2.2
  obtain ⟨j, h1, h2, h3⟩ := qs_before_l h hy 100 0 (Nat.zero_le _) (by omega) (fun k a _ hk => by omega)
  refine ⟨j, h1, ?_, h3⟩
  unfold m_RowSet_rowsBefore
  rw [nI_0] at h2
  rw [h2]; rfl
theorem perm_er {α : Type} : ∀ {l : List α} {i : Nat} {a : α}, l[i]? = some a → (a :: l.eraseIdx i).Perm l
  | [], i, a, h => by simp at h
  | b :: l, 0, a, h => by
    simp only [List.getElem?_cons_zero, Option.some.injEq] at h
    subst h
    exact List.Perm.refl _
  | b :: l, i + 1, a, h => by
    simp only [List.getElem?_cons_succ] at h
    have := perm_er h
    show (a :: b :: l.eraseIdx i).Perm (b :: l)
    exact (List.Perm.swap b a _).trans (this.cons b)
theorem srt_of {R : List (List Nat)} (h : ∀ (i j : Nat) (a b : List Nat), R[i]? = some a → R[j]? = some b → i < j → rk 7 a < rk 7 b) : srt R := by
  apply List.pairwise_iff_getElem.mpr
  intro i j h1 h2 hij
  exact h i j _ _ (List.getElem?_eq_getElem h1) (List.getElem?_eq_getElem h2) hij
theorem qs_ins {f : Nat → Int64} {R : List (List Nat)} (h : okR f R) {x : List Nat} (hx : vd x) (hn : x ∉ R) (hl : R.length < 24) : ∃ f' R', m_RowSet_insert (lN (rk 7 x)) f (nI R.length) = some (f', nI R'.length) ∧ okR f' R' ∧ R'.Perm (x :: R) := by
  obtain ⟨j, h1, h2, h3⟩ := qs_before h (vd_lt hx)
  have hp := List.perm_insertIdx x R h1
  have hlen : (R.insertIdx j x).length = R.length + 1 := by rw [hp.length_eq]; rfl
  have hc : nI R.length < 24 := nI_lt (b := 24) hl (by decide)
  refine ⟨vp_updL (va_cpy f f j (j + 1) (R.length - j)) j (lN (rk 7 x)), R.insertIdx j x, ?_, ⟨?_, ?_, ?_, ?_⟩, hp⟩
  · unfold m_RowSet_insert
    rw [if_pos hc, h2, Option.bind_some, nI_1, nI_1, pk_sub h1, if_neg (cpyOK (by omega) (by omega) (by decide) (by decide)), if_neg (nI_in (by omega) (by decide)), nI_clamp (by omega), nI_clamp (by omega), nI_clamp (by omega), hlen]
  · intro i a hi
    rw [List.getElem?_insertIdx] at hi
    by_cases c1 : i < j
    · rw [if_pos c1] at hi
      rw [pk_uLn (by omega), pk_cpy_out (by omega)]
      exact h.1 i a hi
    · rw [if_neg c1] at hi
      by_cases c2 : i = j
      · subst c2
        rw [if_pos rfl, if_pos h1] at hi
        injection hi with hi
        rw [pk_uLs, hi]
      · rw [if_neg c2] at hi
        have := get_lt hi
        rw [pk_uLn c2, pk_cpy_in (by omega) (by omega), show j + (i - (j + 1)) = i - 1 by omega]
        exact h.1 (i - 1) a hi
  · apply srt_of
    intro i k a b hi hk hik
    rw [List.getElem?_insertIdx] at hi hk
    by_cases c1 : k < j
    · rw [if_pos c1] at hk
      rw [if_pos (by omega)] at hi
      exact srt_get h.2.1 hi hk hik
    · rw [if_neg c1] at hk
      by_cases c2 : k = j
      · subst c2
        rw [if_pos rfl, if_pos h1] at hk
        rw [if_pos hik] at hi
        injection hk with hk
        rw [← hk]
        exact (h3 i a hi).mp hik
      · rw [if_neg c2] at hk
        by_cases c3 : i < j
        · rw [if_pos c3] at hi
          exact srt_get h.2.1 hi hk (by omega)
        · rw [if_neg c3] at hi
          by_cases c4 : i = j
          · subst c4
            rw [if_pos rfl, if_pos h1] at hi
            injection hi with hi
            have h5 : ¬ rk 7 b < rk 7 x := fun h6 => by have := (h3 (k - 1) b hk).mpr h6; omega
            have h6 : rk 7 b ≠ rk 7 x := fun h6 => hn (by rw [← vd_inj (h.2.2.1 b (get_mem hk)) hx h6]; exact get_mem hk)
            rw [← hi]
            omega
          · rw [if_neg c4] at hi
            exact srt_get h.2.1 hi hk (by omega)
  · intro a ha
    have := hp.mem_iff.mp ha
    rcases List.mem_cons.mp this with h5 | h5
    · rw [h5]; exact hx
    · exact h.2.2.1 a h5
  · omega
theorem qs_take {f : Nat → Int64} {R : List (List Nat)} (h : okR f R) {x : List Nat} (hx : x ∈ R) : ∃ f' R', m_RowSet_take (lN (rk 7 x)) f (nI R.length) = some (f', nI R'.length) ∧ okR f' R' ∧ (x :: R').Perm R := by
  have vx := h.2.2.1 x hx
  have hl := h.2.2.2
  obtain ⟨j, h1, h2, h3⟩ := qs_before h (vd_lt vx)
  obtain ⟨k, hk⟩ := List.mem_iff_getElem?.mp hx
  have hkl := get_lt hk
  have hjk : j = k := by
    have a1 : ¬ k < j := fun h4 => by have := (h3 k x hk).mp h4; omega
    apply Nat.le_antisymm (by omega)
    apply Nat.le_of_not_lt
    intro h4
    obtain ⟨b, hb⟩ := get_ex (show j < R.length by omega)
    have h5 := srt_get h.2.1 hb hk h4
    have := (h3 j b hb).mpr h5
    omega
  subst hjk
  have hp := perm_er hk
  have hlen : (R.eraseIdx j).length = R.length - 1 := by rw [List.length_eraseIdx, if_pos hkl]
  have e1 : nI R.length - 1 = nI (R.length - 1) := pk_sub (b := 1) (by omega)
  have cc := cpyOK (sp := j + 1) (dp := j) (n := R.length - 1 - j) (N := 24) (M := 24) (by omega) (by omega) (by decide) (by decide)
  rw [nI_clamp (show j < 2 ^ 31 by omega), nI_clamp (show j + 1 < 2 ^ 31 by omega), nI_clamp (show R.length - 1 - j < 2 ^ 31 by omega)] at cc
  refine ⟨va_cpy f f (j + 1) j (R.length - 1 - j), R.eraseIdx j, ?_, ⟨?_, ?_, ?_, ?_⟩, hp⟩
  · unfold m_RowSet_take
    rw [h2, Option.bind_some, if_neg (nI_ge hkl (by omega)), if_neg (nI_in (by omega) (by decide)), nI_clamp (by omega), h.1 j x hk, if_pos ((cmp_eq (vd_lt vx) (vd_lt vx)).mpr rfl), nI_1, e1, pk_sub (show j ≤ R.length - 1 by omega), nI_clamp (show j + 1 < 2 ^ 31 by omega), nI_clamp (show R.length - 1 - j < 2 ^ 31 by omega), if_neg cc, hlen]
  · intro i a hi
    have hi2 := get_lt hi
    rw [List.getElem?_eraseIdx] at hi
    by_cases c1 : i < j
    · rw [if_pos c1] at hi
      rw [pk_cpy_out (by omega)]
      exact h.1 i a hi
    · rw [if_neg c1] at hi
      rw [pk_cpy_in (by omega) (by omega), show j + 1 + (i - j) = i + 1 by omega]
      exact h.1 (i + 1) a hi
  · exact List.Pairwise.sublist (List.eraseIdx_sublist R j) h.2.1
  · intro a ha
    exact h.2.2.1 a ((List.eraseIdx_sublist R j).mem ha)
  · omega
theorem qs_copy {f g : Nat → Int64} {R : List (List Nat)} (h : okR f R) : ∃ f', m_RowSet_copyFrom g f (nI R.length) = some (f', nI R.length) ∧ okR f' R := by
  have hl := h.2.2.2
  have c : ¬ ((0 : Int32) < 0 ∨ (0 : Int32) < 0 ∨ nI R.length < 0 ∨ 24 < (0 : Int32).toNatClampNeg + (nI R.length).toNatClampNeg ∨ 24 < (0 : Int32).toNatClampNeg + (nI R.length).toNatClampNeg) := cpyOK (sp := 0) (dp := 0) (by omega) (by omega) (by decide) (by decide)
  refine ⟨va_cpy f g 0 0 R.length, ?_, ?_, h.2⟩
  · unfold m_RowSet_copyFrom
    rw [if_neg c, nI_clamp (by omega)]
    rfl
  · intro i a hi
    have := get_lt hi
    rw [pk_cpy_in (by omega) (by omega), show 0 + (i - 0) = i by omega]
    exact h.1 i a hi
