/-! Finding an entry; the reference's rows. -/
def aN (f : Nat → Int32) (S : List Nat) : Prop := ∀ i a, S[i]? = some a → f i = nI a
def aT (f : Nat → Int32) (T : List Int32) : Prop := ∀ i a, T[i]? = some a → f i = a
theorem nI_m1 {n : Nat} (h : n < 2 ^ 31) : ¬ nI n = -1 := by
  intro e
  have h1 := nI_toInt h
  rw [e] at h1
  have h2 : (-1 : Int32).toInt = -1 := by decide
  omega
theorem qd_ixN_l {f : Nat → Int64} {N : List (List Nat)} (h : aR f N) (hv : ∀ a ∈ N, vd a) (hl : N.length ≤ 24) {s : List Nat} (hs : vd s) : ∀ (n i : Nat), i ≤ N.length → N.length - i < n → (∀ k a, N[k]? = some a → k < i → a ≠ s) → (∃ j, N[j]? = some s ∧ m_Directory_indexOfName_l2 (lN (rk 7 s)) f (nI N.length) n (nI i) = some (nI j)) ∨ (s ∉ N ∧ m_Directory_indexOfName_l2 (lN (rk 7 s)) f (nI N.length) n (nI i) = some (-1))
  | 0, _, _, h2, _ => by omega
  | n + 1, i, h1, h2, hI => by
    rw [m_Directory_indexOfName_l2]
    by_cases c : i = N.length
    · right
      refine ⟨fun hm => ?_, by rw [if_pos (nI_le (by omega) (by omega))]⟩
      obtain ⟨k, hk⟩ := List.mem_iff_getElem?.mp hm
      exact hI k s hk (by have := get_lt hk; omega) rfl
    · obtain ⟨a, ha⟩ := get_ex (show i < N.length by omega)
      have va := hv a (get_mem ha)
      rw [if_neg (nI_ge (by omega) (by omega)), if_neg (nI_in (by omega) (by decide)), nI_clamp (by omega), h i a ha]
      by_cases e : a = s
      · left
        refine ⟨i, by rw [ha, e], ?_⟩
        rw [if_pos ((cmp_eq (vd_lt va) (vd_lt hs)).mpr (by rw [e]))]
      · rw [if_neg (fun h3 => e (vd_inj va hs ((cmp_eq (vd_lt va) (vd_lt hs)).mp h3))), nI_1]
        apply qd_ixN_l h hv hl hs n (i + 1) (by omega) (by omega)
        intro k b hk hki
        by_cases e2 : k = i
        · subst e2
          rw [ha] at hk
          injection hk with hk
          rw [← hk]
          exact e
        · exact hI k b hk (by omega)
theorem qd_ixN {f : Nat → Int64} {N : List (List Nat)} (h : aR f N) (hv : ∀ a ∈ N, vd a) (hl : N.length ≤ 24) {s : List Nat} (hs : vd s) : (∃ j, N[j]? = some s ∧ m_Directory_indexOfName (lN (rk 7 s)) f (nI N.length) = some (nI j)) ∨ (s ∉ N ∧ m_Directory_indexOfName (lN (rk 7 s)) f (nI N.length) = some (-1)) := by
  unfold m_Directory_indexOfName
  have := qd_ixN_l h hv hl hs 100 0 (Nat.zero_le _) (by omega) (fun k a _ hk => by omega)
  rw [nI_0] at this
  exact this
theorem qm_ixN_l {f : Nat → Int64} {g : Nat → Int32} {N : List (List Nat)} (h : aB f g N) (hv : ∀ a ∈ N, vd a) (hl : N.length ≤ 24) {s : List Nat} (hs : vd s) : ∀ (n i : Nat), i ≤ N.length → N.length - i < n → (∀ k a, N[k]? = some a → k < i → a ≠ s) → (∃ j, N[j]? = some s ∧ m_M_entryWith_l3 (lN (pr s)) (nI s.length) f g (nI N.length) n (nI i) = some (nI j)) ∨ (s ∉ N ∧ m_M_entryWith_l3 (lN (pr s)) (nI s.length) f g (nI N.length) n (nI i) = some (-1))
  | 0, _, _, h2, _ => by omega
  | n + 1, i, h1, h2, hI => by
    rw [m_M_entryWith_l3]
    by_cases c : i = N.length
    · right
      refine ⟨fun hm => ?_, by rw [if_pos (nI_le (by omega) (by omega))]⟩
      obtain ⟨k, hk⟩ := List.mem_iff_getElem?.mp hm
      exact hI k s hk (by have := get_lt hk; omega) rfl
    · obtain ⟨a, ha⟩ := get_ex (show i < N.length by omega)
      have va := hv a (get_mem ha)
      have he := nm_eq va hs
      rw [if_neg (nI_ge (by omega) (by omega)), if_neg (nI_in (by omega) (by decide)), nI_clamp (by omega), (h i a ha).1, (h i a ha).2]
      by_cases e : a = s
      · left
        have h3 := he.mpr e
        refine ⟨i, by rw [ha, e], ?_⟩
        rw [if_pos h3.1, if_neg (nI_in' (show i < 24 by omega) (by decide)), if_pos h3.2]
      · have ih := qm_ixN_l h hv hl hs n (i + 1) (by omega) (by omega) (by
          intro k b hk hki
          by_cases e2 : k = i
          · subst e2
            rw [ha] at hk
            injection hk with hk
            rw [← hk]
            exact e
          · exact hI k b hk (by omega))
        rw [nI_1]
        by_cases c1 : lg_cmp (lN (pr a)) (lN (pr s)) = 0
        · rw [if_pos c1, if_neg (nI_in' (show i < 24 by omega) (by decide)), if_neg (fun h3 => e (he.mp ⟨c1, h3⟩))]
          exact ih
        · rw [if_neg c1]
          exact ih
theorem qm_ixN {f : Nat → Int64} {g : Nat → Int32} {N : List (List Nat)} (h : aB f g N) (hv : ∀ a ∈ N, vd a) (hl : N.length ≤ 24) {s : List Nat} (hs : vd s) : (∃ j, N[j]? = some s ∧ m_M_entryWith (lN (pr s)) (nI s.length) (nI N.length) f g = some (nI j)) ∨ (s ∉ N ∧ m_M_entryWith (lN (pr s)) (nI s.length) (nI N.length) f g = some (-1)) := by
  unfold m_M_entryWith
  have := qm_ixN_l h hv hl hs 100 0 (Nat.zero_le _) (by omega) (fun k a _ hk => by omega)
  rw [nI_0] at this
  exact this
theorem qd_ixS_l {f : Nat → Int32} {S : List Nat} (h : aN f S) (hl : S.length ≤ 24) {x : Int32} : ∀ (n i : Nat), i ≤ S.length → S.length - i < n → (∀ k a, S[k]? = some a → k < i → nI a ≠ x) → (∃ j a, S[j]? = some a ∧ nI a = x ∧ m_Directory_indexOfSerial_l2 x f (nI S.length) n (nI i) = some (nI j)) ∨ ((∀ a ∈ S, nI a ≠ x) ∧ m_Directory_indexOfSerial_l2 x f (nI S.length) n (nI i) = some (-1))
  | 0, _, _, h2, _ => by omega
  | n + 1, i, h1, h2, hI => by
    rw [m_Directory_indexOfSerial_l2]
    by_cases c : i = S.length
    · right
      refine ⟨fun a hm => ?_, by rw [if_pos (nI_le (by omega) (by omega))]⟩
      obtain ⟨k, hk⟩ := List.mem_iff_getElem?.mp hm
      exact hI k a hk (by have := get_lt hk; omega)
    · obtain ⟨a, ha⟩ := get_ex (show i < S.length by omega)
      rw [if_neg (nI_ge (by omega) (by omega)), if_neg (nI_in (by omega) (by decide)), nI_clamp (by omega), h i a ha]
      by_cases e : nI a = x
      · left
        exact ⟨i, a, ha, e, by rw [if_pos e]⟩
      · rw [if_neg e, nI_1]
        apply qd_ixS_l h hl n (i + 1) (by omega) (by omega)
        intro k b hk hki
        by_cases e2 : k = i
        · subst e2
          rw [ha] at hk
          injection hk with hk
          rw [← hk]
          exact e
        · exact hI k b hk (by omega)
theorem qd_ixS {f : Nat → Int32} {S : List Nat} (h : aN f S) (hl : S.length ≤ 24) (x : Int32) : (∃ j a, S[j]? = some a ∧ nI a = x ∧ m_Directory_indexOfSerial x f (nI S.length) = some (nI j)) ∨ ((∀ a ∈ S, nI a ≠ x) ∧ m_Directory_indexOfSerial x f (nI S.length) = some (-1)) := by
  unfold m_Directory_indexOfSerial
  have := qd_ixS_l h hl (x := x) 100 0 (Nat.zero_le _) (by omega) (fun k a _ hk => by omega)
  rw [nI_0] at this
  exact this
theorem qm_ixS_same (x : Int32) (f : Nat → Int32) (c : Int32) : ∀ (n : Nat) (i : Int32), m_M_entryOf_l2 x f c n i = m_Directory_indexOfSerial_l2 x f c n i
  | 0, _ => rfl
  | n + 1, i => by
    rw [m_M_entryOf_l2, m_Directory_indexOfSerial_l2, qm_ixS_same x f c n (i + 1)]
theorem qm_ixS {f : Nat → Int32} {S : List Nat} (h : aN f S) (hl : S.length ≤ 24) (x : Int32) : (∃ j a, S[j]? = some a ∧ nI a = x ∧ m_M_entryOf x (nI S.length) f = some (nI j)) ∨ ((∀ a ∈ S, nI a ≠ x) ∧ m_M_entryOf x (nI S.length) f = some (-1)) := by
  unfold m_M_entryOf
  rw [qm_ixS_same]
  exact qd_ixS h hl x
/-! the next serial -/
theorem qd_ab_l {f : Nat → Int32} {S : List Nat} (h : aN f S) (hl : S.length ≤ 24) {x : Int32} : ∀ (n i : Nat), i ≤ S.length → S.length - i < n → (∀ k a, S[k]? = some a → k < i → nI a ≤ x) → (∃ j a, S[j]? = some a ∧ ¬ nI a ≤ x ∧ (∀ k b, S[k]? = some b → k < j → nI b ≤ x) ∧ m_Directory_indexAbove_l2 x f (nI S.length) n (nI i) = some (nI j)) ∨ ((∀ a ∈ S, nI a ≤ x) ∧ m_Directory_indexAbove_l2 x f (nI S.length) n (nI i) = some (-1))
  | 0, _, _, h2, _ => by omega
  | n + 1, i, h1, h2, hI => by
    rw [m_Directory_indexAbove_l2]
    by_cases c : i = S.length
    · right
      refine ⟨fun a hm => ?_, by rw [if_pos (nI_le (by omega) (by omega))]⟩
      obtain ⟨k, hk⟩ := List.mem_iff_getElem?.mp hm
      exact hI k a hk (by have := get_lt hk; omega)
    · obtain ⟨a, ha⟩ := get_ex (show i < S.length by omega)
      rw [if_neg (nI_ge (by omega) (by omega)), if_neg (nI_in (by omega) (by decide)), nI_clamp (by omega), h i a ha]
      by_cases e : nI a ≤ x
      · rw [if_pos e, nI_1]
        apply qd_ab_l h hl n (i + 1) (by omega) (by omega)
        intro k b hk hki
        by_cases e2 : k = i
        · subst e2
          rw [ha] at hk
          injection hk with hk
          rw [← hk]
          exact e
        · exact hI k b hk (by omega)
      · left
        exact ⟨i, a, ha, e, hI, by rw [if_neg e]⟩
theorem qd_ab {f : Nat → Int32} {S : List Nat} (h : aN f S) (hl : S.length ≤ 24) (x : Int32) : (∃ j a, S[j]? = some a ∧ ¬ nI a ≤ x ∧ (∀ k b, S[k]? = some b → k < j → nI b ≤ x) ∧ m_Directory_indexAbove x f (nI S.length) = some (nI j)) ∨ ((∀ a ∈ S, nI a ≤ x) ∧ m_Directory_indexAbove x f (nI S.length) = some (-1)) := by
  unfold m_Directory_indexAbove
  have := qd_ab_l h hl (x := x) 100 0 (Nat.zero_le _) (by omega) (fun k a _ hk => by omega)
  rw [nI_0] at this
  exact this
/-- the reference's loop, all not above the cookie so far -/
theorem qm_nx_lo {f : Nat → Int32} {S : List Nat} (h : aN f S) (hl : S.length ≤ 24) {x : Int32} : ∀ (n i : Nat), i ≤ S.length → S.length - i < n → (∀ k a, S[k]? = some a → i ≤ k → nI a ≤ x) → ∀ b : Int32, m_M_next_l14 x f (nI S.length) n b (nI i) = some (b, nI S.length)
  | 0, _, _, h2, _, _ => by omega
  | n + 1, i, h1, h2, hI, b => by
    rw [m_M_next_l14]
    by_cases c : i = S.length
    · rw [if_pos (nI_le (by omega) (by omega)), c]
    · obtain ⟨a, ha⟩ := get_ex (show i < S.length by omega)
      rw [if_neg (nI_ge (by omega) (by omega)), if_neg (nI_in (by omega) (by decide)), nI_clamp (by omega), h i a ha, if_pos (hI i a ha (Nat.le_refl _)), nI_1]
      exact qm_nx_lo h hl n (i + 1) (by omega) (by omega) (fun k a hk hik => hI k a hk (by omega)) b
/-- .. and behind the first one above it -/
theorem qm_nx_hi {f : Nat → Int32} {S : List Nat} (h : aN f S) (hl : S.length ≤ 24) (hS : ∀ a ∈ S, a < 2 ^ 31) {x : Int32} {w : Nat} (hw : w < 2 ^ 31) : ∀ (n i : Nat), i ≤ S.length → S.length - i < n → (∀ k a, S[k]? = some a → i ≤ k → w < a) → m_M_next_l14 x f (nI S.length) n (nI w) (nI i) = some (nI w, nI S.length)
  | 0, _, _, h2, _ => by omega
  | n + 1, i, h1, h2, hI => by
    rw [m_M_next_l14]
    by_cases c : i = S.length
    · rw [if_pos (nI_le (by omega) (by omega)), c]
    · obtain ⟨a, ha⟩ := get_ex (show i < S.length by omega)
      have ha2 := hS a (get_mem ha)
      have ih := qm_nx_hi h hl hS (x := x) hw n (i + 1) (by omega) (by omega) (fun k a hk hik => hI k a hk (by omega))
      have hlt := hI i a ha (Nat.le_refl _)
      rw [if_neg (nI_ge (by omega) (by omega)), if_neg (nI_in (by omega) (by decide)), nI_clamp (by omega), h i a ha, nI_1]
      by_cases e : nI a ≤ x
      · rw [if_pos e]; exact ih
      · rw [if_neg e, if_neg (nI_pos hw), if_neg (nI_in' (show i < 24 by omega) (by decide)), if_pos (nI_le (by omega) ha2)]
        exact ih
theorem qm_nx {f : Nat → Int32} {S : List Nat} (h : aN f S) (hl : S.length ≤ 24) (hS : ∀ a ∈ S, a < 2 ^ 31) (hi : S.Pairwise (· < ·)) {x : Int32} : ∀ (n i : Nat), i ≤ S.length → S.length - i < n → ∀ j a, S[j]? = some a → i ≤ j → ¬ nI a ≤ x → (∀ k b, S[k]? = some b → k < j → nI b ≤ x) → m_M_next_l14 x f (nI S.length) n (-1) (nI i) = some (nI a, nI S.length)
  | 0, _, _, h2, _, _, _, _, _, _ => by omega
  | n + 1, i, h1, h2, j, a, hj, hij, hx, hlo => by
    have hjl := get_lt hj
    have m1 : (-1 : Int32) < 0 := by decide
    rw [m_M_next_l14]
    obtain ⟨b, hb⟩ := get_ex (show i < S.length by omega)
    rw [if_neg (nI_ge (by omega) (by omega)), if_neg (nI_in (by omega) (by decide)), nI_clamp (by omega), h i b hb, nI_1]
    by_cases e : i = j
    · subst e
      rw [hj] at hb
      injection hb with hb
      subst hb
      rw [if_neg hx, if_pos m1, if_neg (nI_in' (show i < 24 by omega) (by decide))]
      apply qm_nx_hi h hl hS (hS a (get_mem hj)) n (i + 1) (by omega) (by omega)
      intro k c hk hik
      obtain ⟨q1, e1⟩ := List.getElem?_eq_some_iff.mp hj
      obtain ⟨q2, e2⟩ := List.getElem?_eq_some_iff.mp hk
      have := List.pairwise_iff_getElem.mp hi i k q1 q2 (by omega)
      rw [e1, e2] at this
      exact this
    · rw [if_pos (hlo i b hb (by omega))]
      exact qm_nx h hl hS hi n (i + 1) (by omega) (by omega) j a hj (by omega) hx hlo
/-! the reference's rows: all names, or all but one -/
def btE (x : Int32) (e n : Nat) : Prop := (x = nI e ∧ e < 24) ∨ (x = -1 ∧ n ≤ e)
theorem bt_eq {x : Int32} {e n i : Nat} (h : btE x e n) (hi : i < n) (hn : n ≤ 24) : nI i = x ↔ i = e := by
  rcases h with ⟨h1, h2⟩ | ⟨h1, h2⟩
  · rw [h1, nI_eq (by omega) (by omega)]
  · constructor
    · intro h3
      rw [h1] at h3
      exact absurd h3 (nI_m1 (by omega))
    · intro h3; omega
theorem er_step {α : Type} {N : List α} {i e : Nat} {a : α} (hi : N[i]? = some a) : (N.take (i + 1)).eraseIdx e = if i = e then (N.take i).eraseIdx e else (N.take i).eraseIdx e ++ [a] := by
  have hil := get_lt hi
  have lt : (N.take i).length = i := by rw [List.length_take]; omega
  have e1 : N.take (i + 1) = N.take i ++ [a] := by rw [List.take_add_one, hi]; rfl
  rw [e1]
  by_cases c : i = e
  · subst c
    rw [if_pos rfl, List.eraseIdx_append_of_length_le (by omega), lt, Nat.sub_self, List.eraseIdx_of_length_le (l := N.take i) (by omega)]
    simp
  · rw [if_neg c]
    rcases Nat.lt_or_ge e i with h | h
    · rw [List.eraseIdx_append_of_lt_length (by omega)]
    · rw [List.eraseIdx_append_of_length_le (by omega), lt, List.eraseIdx_of_length_le (l := [a]) (by simp; omega), List.eraseIdx_of_length_le (l := N.take i) (by omega)]
theorem er_len {α : Type} (N : List α) (i e : Nat) : ((N.take i).eraseIdx e).length ≤ i := by
  have h1 := List.length_eraseIdx_le (N.take i) e
  rw [List.length_take] at h1
  omega
theorem qm_row {F : Nat → Int64} {G : Nat → Int32} {X : List (List Nat)} (h : aB F G X) (hl : X.length < 25) (q : List Nat) : ∃ F' G', m_M_row (lN (pr q)) (nI q.length) (nI X.length) F G = some (nI (X ++ [q]).length, F', G') ∧ aB F' G' (X ++ [q]) := by
  refine ⟨_, _, ?_, aB_snoc h q⟩
  unfold m_M_row
  rw [if_neg (nI_in hl (by decide)), if_neg (nI_in hl (by decide)), nI_clamp (by omega), nI_1, List.length_append]
  rfl
theorem qm_ln_l {f : Nat → Int64} {g : Nat → Int32} {N : List (List Nat)} (h : aB f g N) (hl : N.length ≤ 24) {x : Int32} {e : Nat} (hx : btE x e N.length) : ∀ (n i : Nat) (F : Nat → Int64) (G : Nat → Int32), i ≤ N.length → N.length - i < n → aB F G ((N.take i).eraseIdx e) → ∃ F' G', m_M_layNames_l7 x f g (nI N.length) n (nI i) F G (nI ((N.take i).eraseIdx e).length) = some (nI N.length, F', G', nI (N.eraseIdx e).length) ∧ aB F' G' (N.eraseIdx e)
  | 0, _, _, _, _, h2, _ => by omega
  | n + 1, i, F, G, h1, h2, hB => by
    rw [m_M_layNames_l7]
    by_cases c : i = N.length
    · subst c
      rw [List.take_length] at hB ⊢
      exact ⟨F, G, by rw [if_pos (nI_le (Nat.le_refl _) (by omega))], hB⟩
    · obtain ⟨a, ha⟩ := get_ex (show i < N.length by omega)
      have es := er_step (e := e) ha
      have hel := er_len N i e
      rw [if_neg (nI_ge (by omega) (by omega))]
      by_cases e1 : i = e
      · rw [if_pos ((bt_eq hx (by omega) hl).mpr e1), nI_1]
        rw [if_pos e1] at es
        rw [← es] at hB ⊢
        exact qm_ln_l h hl hx n (i + 1) F G (by omega) (by omega) hB
      · rw [if_neg e1] at es
        obtain ⟨F', G', e2, hB'⟩ := qm_row hB (by omega) a
        rw [← es] at e2 hB'
        rw [if_neg (fun h3 => e1 ((bt_eq hx (by omega) hl).mp h3)), if_neg (nI_in (by omega) (by decide)), if_neg (nI_in (by omega) (by decide)), nI_clamp (by omega), (h i a ha).1, (h i a ha).2, e2, Option.bind_some, nI_1]
        exact qm_ln_l h hl hx n (i + 1) F' G' (by omega) (by omega) hB'
theorem qm_ln {f : Nat → Int64} {g : Nat → Int32} {N : List (List Nat)} (h : aB f g N) (hl : N.length ≤ 24) {x : Int32} {e : Nat} (hx : btE x e N.length) (F : Nat → Int64) (G : Nat → Int32) : ∃ F' G', m_M_layNames x (nI N.length) f g F G = some (nI (N.eraseIdx e).length, F', G') ∧ aB F' G' (N.eraseIdx e) := by
  have e0 : (N.take 0).eraseIdx e = [] := by rw [List.take_zero]; rfl
  obtain ⟨F', G', e1, h1⟩ := qm_ln_l h hl hx 100 0 F G (Nat.zero_le _) (by omega) (by rw [e0]; intro i a hi; simp at hi)
  rw [e0] at e1
  have e1' : m_M_layNames_l7 x f g (nI N.length) 100 0 F G 0 = some (nI N.length, F', G', nI (N.eraseIdx e).length) := e1
  refine ⟨F', G', ?_, h1⟩
  unfold m_M_layNames
  rw [e1']; rfl
theorem qm_ls_l {f : Nat → Int32} {S : List Nat} (h : aN f S) (hS : ∀ a ∈ S, a < 65536) (hl : S.length ≤ 24) {x : Int32} {e : Nat} (hx : btE x e S.length) : ∀ (n i : Nat) (F : Nat → Int64) (G : Nat → Int32), i ≤ S.length → S.length - i < n → aB F G (((S.take i).eraseIdx e).map sr) → ∃ F' G', m_M_laySerials_l7 x f (nI S.length) n (nI i) F G (nI ((S.take i).eraseIdx e).length) = some (nI S.length, F', G', nI (S.eraseIdx e).length) ∧ aB F' G' ((S.eraseIdx e).map sr)
  | 0, _, _, _, _, h2, _ => by omega
  | n + 1, i, F, G, h1, h2, hB => by
    rw [m_M_laySerials_l7]
    by_cases c : i = S.length
    · subst c
      rw [List.take_length] at hB ⊢
      exact ⟨F, G, by rw [if_pos (nI_le (Nat.le_refl _) (by omega))], hB⟩
    · obtain ⟨a, ha⟩ := get_ex (show i < S.length by omega)
      have es := er_step (e := e) ha
      have hel := er_len S i e
      rw [if_neg (nI_ge (by omega) (by omega))]
      by_cases e1 : i = e
      · rw [if_pos ((bt_eq hx (by omega) hl).mpr e1), nI_1]
        rw [if_pos e1] at es
        rw [← es] at hB ⊢
        exact qm_ls_l h hS hl hx n (i + 1) F G (by omega) (by omega) hB
      · rw [if_neg e1] at es
        obtain ⟨F', G', e2, hB'⟩ := qm_row hB (by rw [List.length_map]; omega) (sr a)
        have e3 : ((S.take i).eraseIdx e).map sr ++ [sr a] = ((S.take (i + 1)).eraseIdx e).map sr := by rw [es, List.map_append]; rfl
        rw [e3, List.length_map, List.length_map] at e2
        rw [e3] at hB'
        have e2' : m_M_row (lN (pr (sr a))) 2 (nI ((S.take i).eraseIdx e).length) F G = some (nI ((S.take (i + 1)).eraseIdx e).length, F', G') := e2
        rw [if_neg (fun h3 => e1 ((bt_eq hx (by omega) hl).mp h3)), if_neg (nI_in (by omega) (by decide)), nI_clamp (by omega), h i a ha, qm_ser (hS a (get_mem ha)), Option.bind_some, e2', Option.bind_some, nI_1]
        exact qm_ls_l h hS hl hx n (i + 1) F' G' (by omega) (by omega) hB'
theorem qm_ls {f : Nat → Int32} {S : List Nat} (h : aN f S) (hS : ∀ a ∈ S, a < 65536) (hl : S.length ≤ 24) {x : Int32} {e : Nat} (hx : btE x e S.length) (F : Nat → Int64) (G : Nat → Int32) : ∃ F' G', m_M_laySerials x (nI S.length) f F G = some (nI ((S.eraseIdx e).map sr).length, F', G') ∧ aB F' G' ((S.eraseIdx e).map sr) := by
  have e0 : (S.take 0).eraseIdx e = [] := by rw [List.take_zero]; rfl
  obtain ⟨F', G', e1, h1⟩ := qm_ls_l h hS hl hx 100 0 F G (Nat.zero_le _) (by omega) (by rw [e0]; intro i a hi; simp at hi)
  rw [e0] at e1
  have e1' : m_M_laySerials_l7 x f (nI S.length) 100 0 F G 0 = some (nI S.length, F', G', nI (S.eraseIdx e).length) := e1
  refine ⟨F', G', ?_, h1⟩
  unfold m_M_laySerials
  rw [e1', List.length_map]; rfl
