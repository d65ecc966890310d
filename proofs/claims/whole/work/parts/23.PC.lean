/-! name -/
def bl (U n : Nat) : List Nat := (List.range n).map (fun i => U / 256 ^ i % 256 + 1)
theorem bl_len (U n : Nat) : (bl U n).length = n := by unfold bl; rw [List.length_map, List.length_range]
theorem bl_succ (U n : Nat) : bl U (n + 1) = bl U n ++ [U / 256 ^ n % 256 + 1] := by
  unfold bl
  rw [List.range_succ, List.map_append]
  rfl
theorem bl_vd {n : Nat} (U : Nat) (h : n ≤ 7) : vd (bl U n) := by
  refine ⟨by rw [bl_len]; exact h, fun d hd => ?_⟩
  unfold bl at hd
  obtain ⟨i, _, e⟩ := List.mem_map.mp hd
  have : U / 256 ^ i % 256 < 256 := Nat.mod_lt _ (by decide)
  omega
theorem bl_pr (U : Nat) : ∀ n : Nat, pr (bl U n) = U % 256 ^ n
  | 0 => by rw [Nat.pow_zero, Nat.mod_one]; rfl
  | n + 1 => by
    rw [bl_succ, pr_snoc, bl_pr U n, bl_len, Nat.pow_succ, Nat.mod_mul, Nat.add_sub_cancel, Nat.mul_comm (256 ^ n)]
theorem qa_byte (U : Nat) (hU : U < 2 ^ 64) {i : Nat} (hi : i < 8) : ((((lN U).toUInt64 >>> (((8 * nI i) : Int32).toInt64.toUInt64 &&& Int64.toUInt64 63)).toInt64 : Int64).toInt32 &&& 255) = nI (U / 256 ^ i % 256) := by
  rw [qa_s8 i hi, wb_shr hU (by omega), lN_i, qa_and32 _ 8 (by decide) (by decide), q2]
theorem st_nm_l {U : Nat} (hU : U < 2 ^ 64) {n : Nat} (hn : n ≤ 7) : ∀ (m i : Nat), i ≤ n → n - i + 1 < m → (m_L_name_l25 (lN U) (nI n) m (lN (rk 7 (bl U i))) (nI i) = some (.inl "java/lang/IllegalArgumentException") ∧ ∃ z, m_M_name_l23 (lN U) (nI n) m (nI i) 0 = some (z, 1)) ∨ (m_L_name_l25 (lN U) (nI n) m (lN (rk 7 (bl U i))) (nI i) = some (.inr (lN (rk 7 (bl U n)))) ∧ ∃ z, m_M_name_l23 (lN U) (nI n) m (nI i) 0 = some (z, 0))
  | 0, _, _, h2 => by omega
  | m + 1, i, h1, h2 => by
    rw [m_L_name_l25, m_M_name_l23]
    by_cases c : i = n
    · subst c
      right
      rw [if_pos (nI_le (Nat.le_refl _) (by omega)), if_pos (nI_le (Nat.le_refl _) (by omega))]
      exact ⟨rfl, _, rfl⟩
    · have hb : U / 256 ^ i % 256 < 256 := Nat.mod_lt _ (by decide)
      have e8 : (lN U >>> (((8 * nI i) : Int32).toInt64 &&& 63)) &&& 255 = lN (U / 256 ^ i % 256) := by
        rw [qb_sar (by omega), q2]
      have k0 := cmp_eq (a := U / 256 ^ i % 256) (b := 0) (by omega) (by decide)
      have k47 := cmp_eq (a := U / 256 ^ i % 256) (b := 47) (by omega) (by decide)
      have stop : ∃ z, m_M_name_l23 (lN U) (nI n) m (nI (i + 1)) 1 = some (z, 1) := by
        obtain ⟨m', rfl⟩ : ∃ m', m = m' + 1 := ⟨m - 1, by omega⟩
        rw [m_M_name_l23]
        by_cases c3 : nI n ≤ nI (i + 1)
        · rw [if_pos c3]; exact ⟨_, rfl⟩
        · rw [if_neg c3, if_neg (by decide)]; exact ⟨_, rfl⟩
      rw [if_neg (nI_ge (by omega) (by omega)), if_neg (nI_ge (by omega) (by omega)), qa_byte U hU (by omega), e8, if_pos rfl, nI_1]
      by_cases c0 : U / 256 ^ i % 256 = 0
      · left
        have h3 : lg_cmp (lN (U / 256 ^ i % 256)) 0 = 0 := k0.mpr c0
        have h4 : nI (U / 256 ^ i % 256) = 0 := by rw [c0]; rfl
        rw [if_pos h3, if_pos h4]
        exact ⟨rfl, stop⟩
      · have h3 : ¬ lg_cmp (lN (U / 256 ^ i % 256)) 0 = 0 := fun h => c0 (k0.mp h)
        have h4 : ¬ nI (U / 256 ^ i % 256) = 0 := nI_ne0 (by omega) (by omega)
        rw [if_neg h3, if_neg h4]
        by_cases c47 : U / 256 ^ i % 256 = 47
        · left
          have h5 : lg_cmp (lN (U / 256 ^ i % 256)) 47 = 0 := k47.mpr c47
          have h6 : nI (U / 256 ^ i % 256) = 47 := by rw [c47]; rfl
          rw [if_pos h5, if_pos h6]
          exact ⟨rfl, stop⟩
        · have h5 : ¬ lg_cmp (lN (U / 256 ^ i % 256)) 47 = 0 := fun h => c47 (k47.mp h)
          have h6 : ¬ nI (U / 256 ^ i % 256) = 47 := fun h => c47 ((nI_eq (b := 47) (by omega) (by decide)).mp h)
          have ex := qc_ext (bl_vd U (show i ≤ 7 by omega)) (by rw [bl_len]; omega) hb
          rw [bl_len, ← bl_succ] at ex
          rw [if_neg h5, if_neg h6, ex, Option.bind_some]
          exact st_nm_l hU hn m (i + 1) (by omega) (by omega)
theorem st_name (x0 : Int64) (x1 : Int32) (hM : Int64) (lM : Int32) : (m_L_name x0 x1 = some (.inl "java/lang/IllegalArgumentException") ∧ m_M_name x0 x1 hM lM = some (1, hM, lM)) ∨ ∃ H, vd H ∧ H ≠ [] ∧ m_L_name x0 x1 = some (.inr (lN (rk 7 H))) ∧ m_M_name x0 x1 hM lM = some (0, lN (pr H), nI H.length) := by
  obtain ⟨U, hU, rfl⟩ := wb_of x0
  have n10 : ¬ (1 : Int32) = 0 := by decide
  unfold m_L_name m_M_name
  by_cases c1 : x1 < 1
  · left
    have h0 : x1 ≤ 0 := by
      have h1 := Int32.lt_iff_toInt_lt.mp c1
      apply Int32.le_iff_toInt_le.mpr
      have e1 : (1 : Int32).toInt = 1 := by decide
      have e2 : (0 : Int32).toInt = 0 := by decide
      omega
    rw [if_pos c1, if_pos c1, m_M_name_l23, if_pos h0, Option.bind_some, if_neg n10]
    exact ⟨rfl, rfl⟩
  · rw [if_neg c1, if_neg c1]
    by_cases c7 : x1 ≤ 7
    · rw [if_pos c7, if_pos c7]
      obtain ⟨n, hn, rfl⟩ : ∃ n, n ≤ 7 ∧ x1 = nI n := by
        obtain ⟨j, hj, e⟩ := nI_of2 (x := x1) (M := 7) (n := 7) (by decide) (fun h => c1 (Int32.lt_of_lt_of_le h (by decide))) c7
        exact ⟨j, hj, e⟩
      have hn1 : 1 ≤ n := by
        apply Nat.le_of_not_lt
        intro h
        have e : n = 0 := by omega
        subst e
        exact c1 (by decide)
      have l := st_nm_l hU hn 100 0 (Nat.zero_le _) (by omega)
      have l' : (m_L_name_l25 (lN U) (nI n) 100 0 0 = some (.inl "java/lang/IllegalArgumentException") ∧ ∃ z, m_M_name_l23 (lN U) (nI n) 100 0 0 = some (z, 1)) ∨ (m_L_name_l25 (lN U) (nI n) 100 0 0 = some (.inr (lN (rk 7 (bl U n)))) ∧ ∃ z, m_M_name_l23 (lN U) (nI n) 100 0 0 = some (z, 0)) := l
      rcases l' with ⟨e1, z, e2⟩ | ⟨e1, z, e2⟩
      · left
        rw [e1, e2, Option.bind_some, if_neg n10]
        exact ⟨rfl, rfl⟩
      · right
        refine ⟨bl U n, bl_vd U hn, fun e => ?_, e1, ?_⟩
        · have := bl_len U n
          rw [e] at this
          simp at this
          omega
        · unfold m_M_firstOf
          rw [e2, Option.bind_some, if_pos rfl, Option.bind_some, qa_f8 n (by omega), wb_mask hU (by omega), q2, bl_pr, bl_len]
    · left
      have h0 : ¬ x1 ≤ 0 := fun h => c7 (Int32.le_trans h (by decide))
      rw [if_neg c7, if_neg c7, m_M_name_l23, if_neg h0, if_neg n10, Option.bind_some, if_neg n10]
      exact ⟨rfl, rfl⟩
/-! counts by places in a list -/
theorem cnt_ix {α : Type} {P : α → Bool} : ∀ (R : List α) (j i : Nat), j ≤ i → i ≤ R.length → (∀ m b, R[m]? = some b → (P b = true ↔ j ≤ m ∧ m < i)) → R.countP P = i - j
  | [], j, i, h1, h2, _ => by simp at h2; simp [h2]
  | a :: R, j, i, h1, h2, h => by
    have h0 := h 0 a rfl
    rw [List.length_cons] at h2
    by_cases hi : i = 0
    · have hj : j = 0 := by omega
      subst hi hj
      have ih := cnt_ix R 0 0 (Nat.le_refl _) (Nat.zero_le _) (fun m b hm => by
        have := h (m + 1) b (by rw [List.getElem?_cons_succ]; exact hm)
        exact this.trans (by omega))
      rw [List.countP_cons_of_neg (fun e => by have := h0.mp e; omega), ih]
    · by_cases hj : j = 0
      · subst hj
        have ih := cnt_ix R 0 (i - 1) (Nat.zero_le _) (by omega) (fun m b hm => by
          have := h (m + 1) b (by rw [List.getElem?_cons_succ]; exact hm)
          exact this.trans (by omega))
        rw [List.countP_cons_of_pos (h0.mpr (by omega)), ih]
        omega
      · have ih := cnt_ix R (j - 1) (i - 1) (by omega) (by omega) (fun m b hm => by
          have := h (m + 1) b (by rw [List.getElem?_cons_succ]; exact hm)
          exact this.trans (by omega))
        rw [List.countP_cons_of_neg (fun e => by have := h0.mp e; omega), ih]
        omega
theorem drop_get {α : Type} {l : List α} {i : Nat} {a : α} (h : l[i]? = some a) : l.drop i = a :: l.drop (i + 1) := by
  rw [List.drop_eq_getElem_cons (get_lt h)]
  congr 1
  exact (List.getElem?_eq_some_iff.mp h).2
/-! rank -/
def rkb (y : Nat) (a : List Nat) : Bool := decide (rk 7 a < y)
theorem qm_rk_l {f : Nat → Int64} {g : Nat → Int32} {N : List (List Nat)} (h : aB f g N) (hv : ∀ a ∈ N, vd a) (hl : N.length ≤ 24) {H : List Nat} (hH : vd H) : ∀ (n i c : Nat), i ≤ N.length → N.length - i < n → m_M_rank_l14 f g (nI N.length) (lN (pr H)) (nI H.length) n (nI c) (nI i) = some (nI (c + (N.drop i).countP (rkb (rk 7 H))), nI N.length)
  | 0, _, _, _, h2 => by omega
  | n + 1, i, c, h1, h2 => by
    rw [m_M_rank_l14]
    by_cases e : i = N.length
    · subst e
      rw [if_pos (nI_le (Nat.le_refl _) (by omega)), List.drop_length]
      rfl
    · obtain ⟨a, ha⟩ := get_ex (show i < N.length by omega)
      have va := hv a (get_mem ha)
      rw [if_neg (nI_ge (by omega) (by omega)), if_neg (nI_in (by omega) (by decide)), if_neg (nI_in (by omega) (by decide)), nI_clamp (by omega), (h i a ha).1, (h i a ha).2, qm_bef va hH, Option.bind_some, drop_get ha, nI_1]
      by_cases c1 : rk 7 a < rk 7 H
      · rw [if_pos c1, if_neg (by decide), nI_1, qm_rk_l h hv hl hH n (i + 1) (c + 1) (by omega) (by omega), List.countP_cons_of_pos (show rkb (rk 7 H) a = true from decide_eq_true c1)]
        congr 3
        omega
      · rw [if_neg c1, if_pos rfl, qm_rk_l h hv hl hH n (i + 1) c (by omega) (by omega), List.countP_cons_of_neg (show ¬ rkb (rk 7 H) a = true from fun h => c1 (of_decide_eq_true h))]
theorem RS_before {f : Nat → Int64} {sz : Int32} {X : List (List Nat)} (h : RS f sz X) {y : Nat} (hy : y < 2 ^ 63) : m_RowSet_rowsBefore (lN y) f sz = some (nI (X.countP (rkb y))) := by
  obtain ⟨R, h1, h2, h3⟩ := h
  subst h3
  obtain ⟨j, hj, e, hc⟩ := qs_before h1 hy
  rw [e, ← h2.countP_eq, cnt_ix R 0 j (Nat.zero_le _) hj (fun m b hm => by
    have := hc m b hm
    unfold rkb
    rw [decide_eq_true_eq, ← this]
    omega), Nat.sub_zero]
theorem st_rank {nm : Nat → Int64} {se ta : Nat → Int32} {nr : Nat → Int64} {nrs : Int32} {sw : Nat → Int64} {sws sz la : Int32} {ct : Int32} {nm2 : Nat → Int64} {le2 se2 ta2 : Nat → Int32} {la2 : Int32} {k : Nat} (hK : KR nm se ta nr nrs sw sws sz la ct nm2 le2 se2 ta2 la2 k) {H : List Nat} (hH : vd H) : ∃ v, m_L_rank nr nrs 1 (lN (rk 7 H)) = some (.inr v) ∧ m_M_rank ct nm2 le2 (lN (pr H)) (nI H.length) 0 = some (v, 0) := by
  obtain ⟨N, S, T, L, ⟨d1, d2, d3, d4, d5, d6, d7⟩, ⟨b1, b2, b3, b4, b5⟩, hA, hLk⟩ := hK
  subst b1
  have e := qm_rk_l b2 (AI_v hA) hA.1 hH 100 0 0 (Nat.zero_le _) (by have := hA.1; omega)
  rw [Nat.zero_add, List.drop_zero, nI_0] at e
  refine ⟨nI (N.countP (rkb (rk 7 H))), ?_, ?_⟩
  · unfold m_L_rank m_Directory_namesBefore
    rw [rq1, thr_r, RS_before d4 (vd_lt hH)]
    rfl
  · unfold m_M_rank
    rw [rf00, Option.bind_some, if_pos rfl, e]
    rfl
