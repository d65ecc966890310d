/-! listed -/
def lsp (p a b : List Nat) : Bool := decide (p = b.take p.length) && decide (rk 7 b < rk 7 a)
theorem bgn_le {p a : List Nat} (ha : vd a) (h : bgn p a) : rk 7 p ≤ rk 7 a := by
  have h1 := bgn_len h
  have h2 := ha.1
  unfold bgn at h
  rw [h]
  exact rk_tle ha (by omega)
theorem ls_cnt {f : Nat → Int64} {R : List (List Nat)} (h : okR f R) {p : List Nat} (hp : vd p) {j : Nat} (hj : ∀ k a, R[k]? = some a → (k < j ↔ rk 7 a < rk 7 p)) {i : Nat} {a : List Nat} (hi : R[i]? = some a) (ha : bgn p a) : j ≤ i ∧ R.countP (lsp p a) = i - j := by
  have va := h.2.2.1 a (get_mem hi)
  have hji : j ≤ i := by
    apply Nat.le_of_not_lt
    intro h1
    have h2 := (hj i a hi).mp h1
    have h3 := bgn_le va ha
    omega
  refine ⟨hji, cnt_ix R j i hji (Nat.le_of_lt (get_lt hi)) ?_⟩
  intro m b hm
  have vb := h.2.2.1 b (get_mem hm)
  unfold lsp
  rw [Bool.and_eq_true, decide_eq_true_eq, decide_eq_true_eq]
  constructor
  · rintro ⟨h1, h2⟩
    refine ⟨?_, srt_inv h.2.1 hm hi h2⟩
    apply Nat.le_of_not_lt
    intro h3
    have h4 := (hj m b hm).mp h3
    have h5 := bgn_le vb (show bgn p b from h1)
    omega
  · rintro ⟨h1, h2⟩
    refine ⟨?_, srt_get h.2.1 hm hi h2⟩
    have h3 : rk 7 p ≤ rk 7 b := by
      apply Nat.le_of_not_lt
      intro h3
      have := (hj m b hm).mpr h3
      omega
    have h4 := srt_get h.2.1 hm hi h2
    have e1 : p.take p.length = a.take p.length := by
      rw [List.take_length]
      exact ha
    have h5 := sandw hp vb va h3 (Nat.le_of_lt h4) hp.1 e1
    rw [h5, List.take_length]
theorem RS_with {f : Nat → Int64} {sz : Int32} {X : List (List Nat)} (h : RS f sz X) {p : List Nat} (hp : vd p) (K : Int32) : (∃ a, a ∈ X ∧ bgn p a ∧ nI (X.countP (lsp p a)) = K ∧ m_RowSet_rowWith (lN (rk 7 p)) (nI p.length) K f sz = some (lN (rk 7 a))) ∨ ((∀ a, a ∈ X → bgn p a → nI (X.countP (lsp p a)) ≠ K) ∧ m_RowSet_rowWith (lN (rk 7 p)) (nI p.length) K f sz = some (lN (rk 7 []))) := by
  obtain ⟨R, h1, h2, h3⟩ := h
  subst h3
  have hl := h1.2.2.2
  obtain ⟨j, hj, e, hc⟩ := qs_before h1 (vd_lt hp)
  have all : ∀ a, a ∈ X → bgn p a → ∃ i, R[i]? = some a ∧ j ≤ i ∧ X.countP (lsp p a) = i - j := by
    intro a ha hb
    obtain ⟨i, hi⟩ := List.mem_iff_getElem?.mp (h2.mem_iff.mpr ha)
    have := ls_cnt h1 hp hc hi hb
    exact ⟨i, hi, this.1, by rw [← h2.countP_eq]; exact this.2⟩
  have z : (0 : Int64) = lN (rk 7 []) := rfl
  unfold m_RowSet_rowWith
  rw [e, Option.bind_some, pk_sub hj]
  rcases pk_ix K (n := R.length - j) (by omega) with c | c | ⟨q, hq, rfl⟩
  · right
    rw [if_pos c]
    refine ⟨fun a ha hb e2 => ?_, rfl⟩
    obtain ⟨i, hi, _, h5⟩ := all a ha hb
    have := get_lt hi
    rw [← e2] at c
    exact nI_pos (by omega) c
  · right
    have c0 : ¬ K < 0 := by
      intro c0
      have h6 := nI_pos' (n := R.length - j) (by omega)
      exact Int32.lt_irrefl (Int32.lt_of_le_of_lt (Int32.le_trans h6 c) c0)
    rw [if_neg c0, if_pos c]
    refine ⟨fun a ha hb e2 => ?_, rfl⟩
    obtain ⟨i, hi, h4, h5⟩ := all a ha hb
    have := get_lt hi
    rw [← e2, h5, nI_leI (by omega) (by omega)] at c
    omega
  · rw [if_neg (nI_pos (by omega)), if_neg (nI_ge hq (by omega)), nI_add]
    obtain ⟨a, ha⟩ := get_ex (show j + q < R.length by omega)
    have va := h1.2.2.1 a (get_mem ha)
    rw [qs_has h1 ha hp hp.1, Option.bind_some]
    by_cases c : a.take p.length = p
    · left
      have hb : bgn p a := c.symm
      have h5 := ls_cnt h1 hp hc ha hb
      refine ⟨a, h2.mem_iff.mp (get_mem ha), hb, ?_, ?_⟩
      · rw [← h2.countP_eq, h5.2, Nat.add_sub_cancel_left]
      · rw [if_pos c, if_neg (by decide), if_neg (nI_in (by omega) (by decide)), nI_clamp (by omega), h1.1 _ a ha]
    · right
      rw [if_neg c, if_pos rfl]
      refine ⟨fun b hb hbb e2 => ?_, rfl⟩
      obtain ⟨i, hi, h4, h5⟩ := all b hb hbb
      have := get_lt hi
      have h6 := (nI_eq (by omega) (by omega)).mp e2
      have h7 : i = j + q := by omega
      subst h7
      rw [ha] at hi
      injection hi with hi
      rw [← hi] at hbb
      exact c hbb.symm
theorem qm_bf_l {f : Nat → Int64} {g : Nat → Int32} {N : List (List Nat)} (h : aB f g N) (hv : ∀ a ∈ N, vd a) (hl : N.length ≤ 24) {H : List Nat} (hH : vd H) {m : Nat} (hm : m ≤ H.length) {e : Nat} {a : List Nat} (he : N[e]? = some a) : ∀ (n i c : Nat), i ≤ N.length → N.length - i < n → m_M_before_l5 (nI e) (nI m) f g (nI N.length) (lN (pr H)) n (nI c) (nI i) = some (nI (c + (N.drop i).countP (lsp (H.take m) a)), nI N.length)
  | 0, _, _, _, h2 => by omega
  | n + 1, i, c, h1, h2 => by
    have hH7 := hH.1
    have hel := get_lt he
    have lm : (H.take m).length = m := by rw [List.length_take]; omega
    rw [m_M_before_l5]
    by_cases c0 : i = N.length
    · subst c0
      rw [if_pos (nI_le (Nat.le_refl _) (by omega)), List.drop_length]
      rfl
    · obtain ⟨b, hb⟩ := get_ex (show i < N.length by omega)
      have va := hv a (get_mem he)
      have vb := hv b (get_mem hb)
      have vp := vd_take hH m
      have eb := qm_begins vp vb
      rw [lm] at eb
      have bi := nI_in (c := i) (N := 24) (by omega) (by decide)
      have bi' := nI_in' (c := i) (N := 24) (by omega) (by decide)
      have be := nI_in (c := e) (N := 24) (by omega) (by decide)
      rw [if_neg (nI_ge (by omega) (by omega)), qm_first hH (by omega), Option.bind_some, if_neg bi, if_neg bi, nI_clamp (show i < 2 ^ 31 by omega), (h i b hb).1, (h i b hb).2, eb, Option.bind_some, drop_get hb, nI_1]
      by_cases c1 : H.take m = b.take m
      · have d1 : decide (H.take m = b.take (H.take m).length) = true := by rw [lm]; exact decide_eq_true c1
        rw [if_pos c1, if_neg (by decide), if_neg bi', if_neg bi', if_neg be, if_neg be, nI_clamp (show e < 2 ^ 31 by omega), (h e a he).1, (h e a he).2, qm_bef vb va, Option.bind_some]
        by_cases c2 : rk 7 b < rk 7 a
        · have d2 : lsp (H.take m) a b = true := by unfold lsp; rw [d1, decide_eq_true c2]; rfl
          rw [if_pos c2, if_neg (by decide), nI_1, qm_bf_l h hv hl hH hm he n (i + 1) (c + 1) (by omega) (by omega), List.countP_cons_of_pos d2]
          congr 3
          omega
        · have d2 : ¬ lsp (H.take m) a b = true := by unfold lsp; rw [decide_eq_false c2, Bool.and_false]; decide
          rw [if_neg c2, if_pos rfl, qm_bf_l h hv hl hH hm he n (i + 1) c (by omega) (by omega), List.countP_cons_of_neg d2]
      · have d2 : ¬ lsp (H.take m) a b = true := by unfold lsp; rw [lm, decide_eq_false c1, Bool.false_and]; decide
        rw [if_neg c1, if_pos rfl, qm_bf_l h hv hl hH hm he n (i + 1) c (by omega) (by omega), List.countP_cons_of_neg d2]
theorem qm_bf {f : Nat → Int64} {g : Nat → Int32} {N : List (List Nat)} (h : aB f g N) (hv : ∀ a ∈ N, vd a) (hl : N.length ≤ 24) {H : List Nat} (hH : vd H) {m : Nat} (hm : m ≤ H.length) {e : Nat} {a : List Nat} (he : N[e]? = some a) : m_M_before (nI e) (nI m) (nI N.length) f g (lN (pr H)) = some (nI (N.countP (lsp (H.take m) a))) := by
  have e1 := qm_bf_l h hv hl hH hm he 100 0 0 (Nat.zero_le _) (by omega)
  rw [Nat.zero_add, List.drop_zero, nI_0] at e1
  unfold m_M_before
  rw [e1]
  rfl
def tgt (N : List (List Nat)) (p : List Nat) (K : Int32) (a : List Nat) : Prop := bgn p a ∧ nI (N.countP (lsp p a)) = K
theorem qm_li_step {f : Nat → Int64} {g se : Nat → Int32} {N : List (List Nat)} (h : aB f g N) (hv : ∀ a ∈ N, vd a) (hl : N.length ≤ 24) {H : List Nat} (hH : vd H) {m : Nat} (hm : m ≤ H.length) (K : Int32) {i : Nat} {a : List Nat} (ha : N[i]? = some a) (n : Nat) (fs : Int32) : (tgt N (H.take m) K a → m_M_listed_l33 K (nI m) f g se (nI N.length) (lN (pr H)) (n + 1) (nI i) fs = m_M_listed_l33 K (nI m) f g se (nI N.length) (lN (pr H)) n (nI (i + 1)) (se i)) ∧ (¬ tgt N (H.take m) K a → m_M_listed_l33 K (nI m) f g se (nI N.length) (lN (pr H)) (n + 1) (nI i) fs = m_M_listed_l33 K (nI m) f g se (nI N.length) (lN (pr H)) n (nI (i + 1)) fs) := by
  have hH7 := hH.1
  have hil := get_lt ha
  have lm : (H.take m).length = m := by rw [List.length_take]; omega
  have va := hv a (get_mem ha)
  have vp := vd_take hH m
  have eb := qm_begins vp va
  rw [lm] at eb
  have bi := nI_in (c := i) (N := 24) (by omega) (by decide)
  have bi' := nI_in' (c := i) (N := 24) (by omega) (by decide)
  rw [m_M_listed_l33, if_neg (nI_ge (by omega) (by omega)), qm_first hH (by omega), Option.bind_some, if_neg bi, if_neg bi, nI_clamp (show i < 2 ^ 31 by omega), (h i a ha).1, (h i a ha).2, eb, Option.bind_some, nI_1, qm_bf h hv hl hH hm ha]
  by_cases c1 : H.take m = a.take m
  · have hb : bgn (H.take m) a := by unfold bgn; rw [lm]; exact c1
    rw [if_pos c1, if_neg (by decide), Option.bind_some]
    by_cases c2 : nI (N.countP (lsp (H.take m) a)) = K
    · rw [if_pos c2, if_neg bi']
      exact ⟨fun _ => rfl, fun h3 => absurd ⟨hb, c2⟩ h3⟩
    · rw [if_neg c2]
      exact ⟨fun h3 => absurd h3.2 c2, fun _ => rfl⟩
  · rw [if_neg c1, if_pos rfl]
    refine ⟨fun h3 => absurd ?_ c1, fun _ => rfl⟩
    have h4 := h3.1
    unfold bgn at h4
    rw [lm] at h4
    exact h4
theorem qm_li_no {f : Nat → Int64} {g se : Nat → Int32} {N : List (List Nat)} (h : aB f g N) (hv : ∀ a ∈ N, vd a) (hl : N.length ≤ 24) {H : List Nat} (hH : vd H) {m : Nat} (hm : m ≤ H.length) {K : Int32} : ∀ (n i : Nat) (fs : Int32), i ≤ N.length → N.length - i < n → (∀ k a, N[k]? = some a → i ≤ k → ¬ tgt N (H.take m) K a) → m_M_listed_l33 K (nI m) f g se (nI N.length) (lN (pr H)) n (nI i) fs = some (nI N.length, fs)
  | 0, _, _, _, h2, _ => by omega
  | n + 1, i, fs, h1, h2, hn => by
    by_cases c0 : i = N.length
    · subst c0
      rw [m_M_listed_l33, if_pos (nI_le (Nat.le_refl _) (by omega))]
    · obtain ⟨a, ha⟩ := get_ex (show i < N.length by omega)
      rw [(qm_li_step h hv hl hH hm K ha n fs).2 (hn i a ha (Nat.le_refl _))]
      exact qm_li_no h hv hl hH hm n (i + 1) fs (by omega) (by omega) (fun k a hk hik => hn k a hk (by omega))
theorem qm_li_yes {f : Nat → Int64} {g se : Nat → Int32} {N : List (List Nat)} (h : aB f g N) (hv : ∀ a ∈ N, vd a) (hl : N.length ≤ 24) {H : List Nat} (hH : vd H) {m : Nat} (hm : m ≤ H.length) {K : Int32} {e : Nat} {a : List Nat} (he : N[e]? = some a) (ht : tgt N (H.take m) K a) (hu : ∀ k b, N[k]? = some b → tgt N (H.take m) K b → k = e) : ∀ (n i : Nat) (fs : Int32), i ≤ e → N.length - i < n → m_M_listed_l33 K (nI m) f g se (nI N.length) (lN (pr H)) n (nI i) fs = some (nI N.length, se e)
  | 0, _, _, _, h2 => by omega
  | n + 1, i, fs, h1, h2 => by
    have hel := get_lt he
    by_cases c0 : i = e
    · subst c0
      rw [(qm_li_step h hv hl hH hm K he n fs).1 ht]
      apply qm_li_no h hv hl hH hm n (i + 1) _ (by omega) (by omega)
      intro k b hk hik h3
      have := hu k b hk h3
      omega
    · obtain ⟨b, hb⟩ := get_ex (show i < N.length by omega)
      rw [(qm_li_step h hv hl hH hm K hb n fs).2 (fun h3 => c0 (hu i b hb h3))]
      exact qm_li_yes h hv hl hH hm he ht hu n (i + 1) fs (by omega) (by omega)
theorem tgt_uniq {f : Nat → Int64} {sz : Int32} {X : List (List Nat)} (h : RS f sz X) {p : List Nat} (hp : vd p) {K : Int32} {a b : List Nat} (ha : a ∈ X) (hb : b ∈ X) (h1 : tgt X p K a) (h2 : tgt X p K b) : a = b := by
  obtain ⟨R, r1, r2, r3⟩ := h
  have hl := r1.2.2.2
  obtain ⟨j, hj, e, hc⟩ := qs_before r1 (vd_lt hp)
  obtain ⟨i, hi⟩ := List.mem_iff_getElem?.mp (r2.mem_iff.mpr ha)
  obtain ⟨k, hk⟩ := List.mem_iff_getElem?.mp (r2.mem_iff.mpr hb)
  have q1 := ls_cnt r1 hp hc hi h1.1
  have q2 := ls_cnt r1 hp hc hk h2.1
  have l1 := get_lt hi
  have l2 := get_lt hk
  have e3 := h1.2.trans h2.2.symm
  rw [← r2.countP_eq, ← r2.countP_eq, q1.2, q2.2, nI_eq (by omega) (by omega)] at e3
  have e4 : i = k := by omega
  subst e4
  rw [hi] at hk
  injection hk
theorem st_list {nm : Nat → Int64} {se ta : Nat → Int32} {nr : Nat → Int64} {nrs : Int32} {sw : Nat → Int64} {sws sz la : Int32} {ct : Int32} {nm2 : Nat → Int64} {le2 se2 ta2 : Nat → Int32} {la2 : Int32} {k : Nat} (hK : KR nm se ta nr nrs sw sws sz la ct nm2 le2 se2 ta2 la2 k) {H : List Nat} (hH : vd H) (K x fs : Int32) :
    (m_L_listed K x nm se nr nrs sz 1 (lN (rk 7 H)) = some (.inl "java/lang/IllegalArgumentException") ∧ m_M_listed K x ct nm2 le2 se2 (lN (pr H)) (nI H.length) fs 0 = some (0, 2, fs)) ∨ ∃ v fs', m_L_listed K x nm se nr nrs sz 1 (lN (rk 7 H)) = some (.inr (v, v)) ∧ m_M_listed K x ct nm2 le2 se2 (lN (pr H)) (nI H.length) fs 0 = some (v, 0, fs') ∧ FR v fs' := by
  obtain ⟨N, S, T, L, ⟨d1, d2, d3, d4, d5, d6, d7⟩, ⟨b1, b2, b3, b4, b5⟩, hA, hLk⟩ := hK
  obtain ⟨a1, a2, a3, a4, a5, a6, a7, a8⟩ := id hA
  subst d6 b1
  have hH7 := hH.1
  unfold m_L_listed m_M_listed
  rw [rq1, thr_r]
  by_cases c0 : x < 0
  · left
    rw [if_pos c0, if_pos c0, rf10, Option.bind_some, if_neg (by decide)]
    exact ⟨rfl, rfl⟩
  · rw [if_neg c0, if_neg c0, qc_len hH, Option.bind_some]
    by_cases c1 : x ≤ nI H.length
    · rw [if_pos c1, if_pos c1]
      obtain ⟨m, hm, rfl⟩ := nI_of2 (nI_toInt (n := H.length) (by omega)) c0 c1
      have lm : (H.take m).length = m := by rw [List.length_take]; omega
      have vp := vd_take hH m
      right
      rw [rf00, Option.bind_some, if_pos rfl]
      unfold m_Directory_indexListed m_L_serialAtOrNone m_Directory_serialAt
      rw [qc_beg hH (by omega), Option.bind_some]
      have rw1 := RS_with d4 vp K
      rw [lm] at rw1
      rcases rw1 with ⟨a, ha, hb, hc, e1⟩ | ⟨hn, e1⟩
      · have va := AI_v hA a ha
        rcases qd_ixN d1 (AI_v hA) a1 va with ⟨j, hj, e2⟩ | ⟨hn, e2⟩
        · have hjl := get_lt hj
          obtain ⟨b, hbS⟩ := get_ex (show j < S.length by omega)
          have hb2 := a7 b (get_mem hbS)
          have g1 : se j = nI b := d2 j b hbS
          have g2 : se2 j = nI b := b3 j b hbS
          have bj := nI_in (c := j) (N := 24) (by omega) (by decide)
          have e3 := qm_li_yes (se := se2) b2 (AI_v hA) a1 hH hm hj (K := K) ⟨hb, hc⟩ (fun k' b' hk' ht' => by
            have := tgt_uniq d4 vp (get_mem hk') ha ht' ⟨hb, hc⟩
            rw [this] at hk'
            exact nd_ix a4 hk' hj) 100 0 0 (Nat.zero_le _) (by omega)
          rw [nI_0, g2] at e3
          refine ⟨nI b, nI b, ?_, ?_, Or.inr ⟨b, hb2.1, by omega, rfl, rfl⟩⟩
          · rw [e1, Option.bind_some, e2, Option.bind_some, Option.bind_some, if_neg (nI_m1 (by omega)), if_neg bj, nI_clamp (by omega), g1]
            rfl
          · rw [e3, Option.bind_some]
            dsimp only
            rw [if_neg (nI_ne0 (by omega) (by omega))]
        · exact absurd ha hn
      · have hne : [] ∉ N := fun hm => (a5 _ hm).2 rfl
        rcases qd_ixN d1 (AI_v hA) a1 vd_nil with ⟨j, hj, e2⟩ | ⟨-, e2⟩
        · exact absurd (get_mem hj) hne
        · have e3 := qm_li_no (se := se2) b2 (AI_v hA) a1 hH hm (K := K) 100 0 0 (Nat.zero_le _) (by omega) (fun k' a' hk' _ ht' => hn a' (get_mem hk') ht'.1 ht'.2)
          rw [nI_0] at e3
          refine ⟨-1, 0, ?_, ?_, Or.inl ⟨rfl, rfl⟩⟩
          · rw [e1, Option.bind_some, e2, Option.bind_some, Option.bind_some, if_pos rfl]
            rfl
          · rw [e3, Option.bind_some]
            dsimp only
            rw [if_pos rfl]
    · left
      rw [if_neg c1, if_neg c1, rf10, Option.bind_some, if_neg (by decide)]
      exact ⟨rfl, rfl⟩
