/-! The free pages, and a change's writes. -/
def MR (ct : Int32) (nm : Nat → Int64) (le se ta : Nat → Int32) (la : Int32) (N : List (List Nat)) (S : List Nat) (T : List Int32) (L : Nat) : Prop :=
  ct = nI N.length ∧ aB nm le N ∧ arr nI se S ∧ arr (fun a => a) ta T ∧ la = nI L
theorem AI_v {N : List (List Nat)} {S : List Nat} {T : List Int32} {L : Nat} (h : AI N S T L) : ∀ a ∈ N, vd a := fun a ha => (h.2.2.2.2.1 a ha).1
theorem AI_s {N : List (List Nat)} {S : List Nat} {T : List Int32} {L : Nat} (h : AI N S T L) : ∀ a ∈ S, a < 65536 := fun a ha => by
  have h1 := (h.2.2.2.2.2.2.1 a ha).2
  have h2 := h.2.2.2.2.2.2.2
  omega
theorem AI_ns {N : List (List Nat)} {S : List Nat} {T : List Int32} {L : Nat} (h : AI N S T L) : S.Nodup := List.Pairwise.imp (fun {a b} h e => by omega) h.2.2.2.2.2.1
theorem nd_sr {S : List Nat} (h : S.Nodup) : (S.map sr).Nodup := by
  apply List.pairwise_iff_getElem.mpr
  intro i j h1 h2 hij
  rw [List.getElem_map, List.getElem_map]
  rw [List.length_map] at h1 h2
  intro e
  exact List.pairwise_iff_getElem.mp h i j h1 h2 hij (sr_inj e)
theorem sr_all {S : List Nat} (h : ∀ a ∈ S, a < 65536) : ∀ a ∈ S.map sr, vd a := by
  intro a ha
  obtain ⟨b, hb, e⟩ := List.mem_map.mp ha
  rw [← e]
  exact sr_vd (h b hb)
theorem er_all {α : Type} (l : List α) : l.eraseIdx l.length = l := List.eraseIdx_of_length_le (Nat.le_refl _)
theorem RS_places {f : Nat → Int64} {sz : Int32} {X : List (List Nat)} (h : RS f sz X) : ∃ Q : List (List Nat), m_RowSet_places f sz = some (nI Q.length) ∧ Q.Nodup ∧ ∀ p, p ∈ Q ↔ isP X p := by
  obtain ⟨R, h1, h2, h3⟩ := h
  subst h3
  obtain ⟨Q, e, hQ, hM⟩ := qs_places h1
  exact ⟨Q, e, hQ, fun p => by rw [hM p, isP_perm h2]⟩
theorem free_eq {nm : Nat → Int64} {se ta : Nat → Int32} {nr : Nat → Int64} {nrs : Int32} {sw : Nat → Int64} {sws sz la : Int32} {N : List (List Nat)} {S : List Nat} {T : List Int32} {L : Nat} (h : DR nm se ta nr nrs sw sws sz la N S T L) (hA : AI N S T L)
    {ct : Int32} {nm2 : Nat → Int64} {le2 se2 ta2 : Nat → Int32} {la2 : Int32} (h2 : MR ct nm2 le2 se2 ta2 la2 N S T L) (F : Nat → Int64) (G : Nat → Int32) (f : Nat → Int64) (g : Nat → Int32) :
    ∃ v c1 F' G' c2 f' g', m_Directory_freePages nr nrs sw sws = some v ∧ m_M_freePages ct nm2 le2 se2 F G f g = some (v, c1, F', G', c2, f', g') := by
  obtain ⟨-, -, -, h4, h5, -, -⟩ := h
  obtain ⟨b1, b2, b3, b4, b5⟩ := h2
  obtain ⟨a1, a2, a3, a4, a5, a6, a7, a8⟩ := id hA
  obtain ⟨Q1, e1, hQ1, hM1⟩ := RS_places h4
  obtain ⟨Q2, e2, hQ2, hM2⟩ := RS_places h5
  subst b1
  obtain ⟨F1, G1, e3, k3⟩ := qm_ln b2 a1 (x := -1) (e := N.length) (Or.inr ⟨rfl, Nat.le_refl _⟩) F G
  rw [er_all] at e3 k3
  obtain ⟨f1, g1, P1, e4, hP1, hN1⟩ := qm_lp k3 (AI_v hA) a4 (by omega) f g
  obtain ⟨F2, G2, e5, k5⟩ := qm_ls (f := se2) b3 (AI_s hA) (by omega) (x := -1) (e := S.length) (Or.inr ⟨rfl, Nat.le_refl _⟩) F1 G1
  rw [er_all] at e5 k5
  obtain ⟨f2, g2, P2, e6, hP2, hN2⟩ := qm_lp k5 (sr_all (AI_s hA)) (nd_sr (AI_ns hA)) (by rw [List.length_map]; omega) f1 g1
  have l1 : Q1.length = P1.length := nd_len hQ1 hP1.2.1 (fun p => by rw [hM1 p, hN1 p])
  have l2 : Q2.length = P2.length := nd_len hQ2 hP2.2.1 (fun p => by rw [hM2 p, hN2 p])
  rw [a2] at e5
  refine ⟨60 - nI Q1.length - nI Q2.length, nI (S.map sr).length, F2, G2, nI P2.length, f2, g2, ?_, ?_⟩
  · unfold m_Directory_freePages
    rw [e1, Option.bind_some, e2, Option.bind_some]
  · unfold m_M_freePages
    rw [e3, Option.bind_some, e4, Option.bind_some, e5, Option.bind_some, e6, Option.bind_some, l1, l2]
def PR (su lC off lM : Int32) : Prop := (su = 1 ∧ off = 0 ∧ lC = lM ∧ ((-1 : Int32) ≤ lM)) ∨ (su = 0 ∧ off = 1)
theorem i32_cases {x : Int32} (h : (-1 : Int32) ≤ x) : x = -1 ∨ ∃ q, q < 2 ^ 31 ∧ x = nI q := by
  by_cases c : x < 0
  · left
    have h1 := Int32.le_iff_toInt_le.mp h
    have h2 := Int32.lt_iff_toInt_lt.mp c
    have e1 : (-1 : Int32).toInt = -1 := by decide
    have e2 : (0 : Int32).toInt = 0 := by decide
    rw [e1] at h1
    rw [e2] at h2
    apply Int32.toInt_inj.mp
    rw [e1]
    omega
  · right
    obtain ⟨j, hj, e⟩ := nI_of c
    exact ⟨j, hj, e⟩
theorem cg {nr : Nat → Int64} {nrs : Int32} {sw : Nat → Int64} {sws v : Int32} (hf : m_Directory_freePages nr nrs sw sws = some v) {ct : Int32} {nm2 : Nat → Int64} {le2 se2 : Nat → Int32} {F : Nat → Int64} {G : Nat → Int32} {f : Nat → Int64} {g : Nat → Int32} {c1 : Int32} {F' : Nat → Int64} {G' : Nat → Int32} {c2 : Int32} {f' : Nat → Int64} {g' : Nat → Int32} (hm : m_M_freePages ct nm2 le2 se2 F G f g = some (v, c1, F', G', c2, f', g'))
    {n : Nat} (hn : n < 200) {left : Int32} (hl : (-1 : Int32) ≤ left) (a w : Int32) :
    ∃ how su' lC' off' lM' w', m_L_carryOut (nI n) a nr nrs sw sws 1 left w = some (if how = 0 then a else how, su', lC', w', decide (how = 0)) ∧ m_M_change (nI n) ct nm2 le2 se2 F G f g 0 left w = some (how, c1, F', G', c2, f', g', off', lM', w') ∧ (how = 0 ∨ how = -2 ∨ how = -3) ∧ PR su' lC' off' lM' := by
  have z2 : ¬ (-2 : Int32) = 0 := by decide
  have z3 : ¬ (-3 : Int32) = 0 := by decide
  unfold m_L_carryOut m_M_change
  rw [hf, hm, Option.bind_some, Option.bind_some]
  by_cases c : nI n ≤ v
  · rw [if_pos c, if_pos c]
    rcases i32_cases hl with e | ⟨q, hq, e⟩
    · subst e
      have m1 : (-1 : Int32) < 0 := by decide
      have m2 : ¬ (0 : Int32) ≤ -1 := by decide
      refine ⟨0, 1, -1, 0, -1, nI n + 1, ?_, ?_, Or.inl rfl, Or.inl ⟨rfl, rfl, rfl, Int32.le_refl _⟩⟩
      · unfold m_Power_write
        rw [if_pos rfl, Option.bind_some, if_pos (by rw [nI_1]; exact nI_lt (by omega) (by omega)), if_pos rfl]
        rfl
      · rw [if_pos m1, if_neg m2]
    · subst e
      have m1 : ¬ nI q < 0 := nI_pos hq
      have m0 : (0 : Int32) ≤ nI q := nI_pos' hq
      have m3 : ¬ nI q = -1 := nI_m1 hq
      rw [nI_1]
      by_cases c2 : n + 1 ≤ q
      · have k1 : ¬ nI q < nI (n + 1) := nI_nlt c2 hq
        refine ⟨0, 1, nI q - nI (n + 1), 0, nI q - nI (n + 1), nI (n + 1), ?_, ?_, Or.inl rfl, Or.inl ⟨rfl, rfl, rfl, ?_⟩⟩
        · unfold m_Power_write
          rw [if_neg m3, if_neg k1, if_pos rfl, Option.bind_some, if_pos (nI_lt (by omega) (by omega)), if_pos rfl]
          rfl
        · rw [if_neg m1, if_pos (nI_le c2 hq), if_pos m0]
        · rw [pk_sub c2]
          have h1 := nI_pos' (n := q - (n + 1)) (by omega)
          exact Int32.le_trans (by decide) h1
      · have k1 : nI q < nI (n + 1) := nI_lt (by omega) (by omega)
        refine ⟨-3, 0, nI q - nI q, 1, nI q, nI q, ?_, ?_, Or.inr (Or.inr rfl), Or.inr ⟨rfl, rfl⟩⟩
        · unfold m_Power_write
          rw [if_neg m3, if_pos k1, if_neg (fun h => by have := (nI_eq hq (by omega)).mp h; omega), Option.bind_some, if_neg (nI_nlt (by omega) (by omega)), if_neg z3, decide_eq_false z3]
        · rw [if_neg m1, if_neg (nI_ge (by omega) (by omega))]
  · rw [if_neg c, if_neg c]
    refine ⟨-2, 1, left, 0, left, w, ?_, rfl, Or.inr (Or.inl rfl), Or.inl ⟨rfl, rfl, rfl, hl⟩⟩
    rw [if_neg z2, decide_eq_false z2]
/-! the reference's removal -/
def shf {α β : Type} (enc : α → β) (f : Nat → β) (l : List α) (e k : Nat) : Prop := (∀ i a, i < k → (l.eraseIdx e)[i]? = some a → f i = enc a) ∧ ∀ i a, k ≤ i → l[i]? = some a → f i = enc a
theorem shf_0 {α β : Type} {enc : α → β} {f : Nat → β} {l : List α} (h : arr enc f l) (e : Nat) : shf enc f l e e := ⟨fun i a hi ha => by
  rw [List.getElem?_eraseIdx, if_pos hi] at ha
  exact h i a ha, fun i a _ ha => h i a ha⟩
theorem shf_I {α : Type} {enc : α → Int32} {f : Nat → Int32} {l : List α} {e k : Nat} (h : shf enc f l e k) (hk : e ≤ k) : shf enc (upd f k (f (k + 1))) l e (k + 1) := ⟨fun i a hi ha => by
  by_cases c : i = k
  · subst c
    rw [List.getElem?_eraseIdx, if_neg (by omega)] at ha
    rw [pk_us]
    exact h.2 (i + 1) a (by omega) ha
  · rw [pk_un c]
    exact h.1 i a (by omega) ha, fun i a hi ha => by
  rw [pk_un (by omega)]
  exact h.2 i a (by omega) ha⟩
theorem shf_L {α : Type} {enc : α → Int64} {f : Nat → Int64} {l : List α} {e k : Nat} (h : shf enc f l e k) (hk : e ≤ k) : shf enc (vp_updL f k (f (k + 1))) l e (k + 1) := ⟨fun i a hi ha => by
  by_cases c : i = k
  · subst c
    rw [List.getElem?_eraseIdx, if_neg (by omega)] at ha
    rw [pk_uLs]
    exact h.2 (i + 1) a (by omega) ha
  · rw [pk_uLn c]
    exact h.1 i a (by omega) ha, fun i a hi ha => by
  rw [pk_uLn (by omega)]
  exact h.2 i a (by omega) ha⟩
theorem shf_all {α β : Type} {enc : α → β} {f : Nat → β} {l : List α} {e k : Nat} (h : shf enc f l e k) (he : e < l.length) (hk : l.length - 1 ≤ k) : arr enc f (l.eraseIdx e) := by
  intro i a hi
  have h2 := get_lt hi
  rw [List.length_eraseIdx, if_pos he] at h2
  exact h.1 i a (by omega) hi
theorem qm_rm_l {N : List (List Nat)} {S : List Nat} {T : List Int32} {e : Nat} (hl : N.length ≤ 24) (h1 : S.length = N.length) (h2 : T.length = N.length) (he : e < N.length) : ∀ (n k : Nat) (f : Nat → Int64) (g se ta : Nat → Int32), e ≤ k → k ≤ N.length - 1 → N.length - 1 - k < n → shf (fun a => lN (pr a)) f N e k → shf (fun a => nI (List.length a)) g N e k → shf nI se S e k → shf (fun a => a) ta T e k → ∃ f' g' se' ta', m_M_remove_l120 (nI (N.length - 1)) n (nI k) f g se ta = some (nI (N.length - 1), f', g', se', ta') ∧ arr (fun a => lN (pr a)) f' (N.eraseIdx e) ∧ arr (fun a => nI (List.length a)) g' (N.eraseIdx e) ∧ arr nI se' (S.eraseIdx e) ∧ arr (fun a => a) ta' (T.eraseIdx e)
  | 0, _, _, _, _, _, _, _, h3, _, _, _, _ => by omega
  | n + 1, k, f, g, se, ta, k1, k2, h3, s1, s2, s3, s4 => by
    rw [m_M_remove_l120]
    by_cases c : k = N.length - 1
    · refine ⟨f, g, se, ta, by rw [if_pos (nI_le (by omega) (by omega)), c], shf_all s1 he (by omega), shf_all s2 he (by omega), shf_all s3 (by omega) (by omega), shf_all s4 (by omega) (by omega)⟩
    · have b1 := nI_in (c := k + 1) (N := 24) (by omega) (by decide)
      have b2 := nI_in (c := k) (N := 24) (by omega) (by decide)
      rw [nI_1, if_neg (nI_ge (by omega) (by omega)), if_neg b1, if_neg b2, if_neg b1, if_neg b2, if_neg b1, if_neg b2, if_neg b1, if_neg b2, nI_clamp (show k < 2 ^ 31 by omega), nI_clamp (show k + 1 < 2 ^ 31 by omega)]
      exact qm_rm_l hl h1 h2 he n (k + 1) _ _ _ _ (by omega) (by omega) (by omega) (shf_L s1 k1) (shf_I s2 k1) (shf_I s3 k1) (shf_I s4 k1)
