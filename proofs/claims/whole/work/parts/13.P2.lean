/-! The small functions of the system's rows and of the reference, on rows of digits. -/
theorem qa_hi {x k : Nat} (hx : x < 2 ^ 64) (hk : k ≤ 64) : x &&& (2 ^ (64 - k) - 1) * 2 ^ k = x / 2 ^ k * 2 ^ k := by
  rw [← Nat.shiftLeft_eq (2 ^ (64 - k) - 1) k, ← Nat.shiftLeft_eq (x / 2 ^ k) k, ← Nat.shiftRight_eq_div_pow]
  apply Nat.eq_of_testBit_eq
  intro i
  simp only [Nat.testBit_and, Nat.testBit_shiftLeft, Nat.testBit_shiftRight, Nat.testBit_two_pow_sub_one]
  by_cases h : k ≤ i
  · have e : k + (i - k) = i := by omega
    rw [e]
    by_cases h2 : i < 64
    · simp [h, show i - k < 64 - k by omega]
    · have : x.testBit i = false := Nat.testBit_lt_two_pow (Nat.lt_of_lt_of_le hx (Nat.pow_le_pow_right (by decide) (by omega)))
      simp [this]
  · simp [h]
theorem qa_m1 : ∀ m, m < 8 → ((-1 : Int64) <<< (((63 - (9 * nI m)) : Int32).toInt64 &&& 63)) = lN ((2 ^ (64 - 9 * (7 - m)) - 1) * 2 ^ (9 * (7 - m))) := by decide +kernel
theorem qa_m1l : ∀ m, m < 8 → (2 ^ (64 - 9 * (7 - m)) - 1) * 2 ^ (9 * (7 - m)) < 2 ^ 64 := by decide +kernel
theorem qa_s9 : ∀ i, i < 7 → (63 - (9 * (nI i + 1)) : Int32) = nI (9 * (6 - i)) := by decide +kernel
theorem qa_s8 : ∀ i, i < 8 → (8 * nI i : Int32) = nI (8 * i) := by decide +kernel
theorem qa_f8 : ∀ k, k < 8 → ((1 : Int64) <<< (((8 * nI k) : Int32).toInt64 &&& 63)) - 1 = lN (2 ^ (8 * k) - 1) := by decide +kernel
theorem qa_and32 (a k : Nat) {m : Int32} (hm : m.toBitVec.toNat = 2 ^ k - 1) (hk : k ≤ 32) : nI a &&& m = nI (a % 2 ^ k) := by
  have e : (nI a).toBitVec.toNat = a % 2 ^ 32 := BitVec.toNat_ofNat _ _
  rw [pk_and _ k hm, e, Nat.mod_mod_of_dvd _ (Nat.pow_dvd_pow 2 hk)]
theorem take_snoc {s : List Nat} {i : Nat} (hi : i < s.length) : s.take (i + 1) = s.take i ++ [s.getD i 0] := by
  rw [List.take_add_one, List.getElem?_eq_getElem hi, List.getD_eq_getElem?_getD, List.getElem?_eq_getElem hi]
  rfl
theorem qc_beg {s : List Nat} (h : vd s) {m : Nat} (hm : m ≤ 7) : m_Row_beginning (lN (rk 7 s)) (nI m) = some (lN (rk 7 (s.take m))) := by
  have hx := vd_lt h
  unfold m_Row_beginning
  rw [qa_m1 m (by omega), wb_and (by omega) (qa_m1l m (by omega)), qa_hi (by omega) (by omega), rk_take 7 m s (vd_512 h) hm, q9]
theorem qc_dig {s : List Nat} (h : vd s) {i : Nat} (hi : i < 7) : m_Row_digitAt (lN (rk 7 s)) (nI i) = some (nI (s.getD i 0)) := by
  have hx := vd_lt h
  have hd := rk_dig 7 i s (vd_512 h) hi
  rw [show 7 - 1 - i = 6 - i by omega] at hd
  unfold m_Row_digitAt
  rw [qa_s9 i hi, wb_shr (by omega) (by omega), lN_i, qa_and32 _ 9 (by decide) (by decide), q9, show (2 : Nat) ^ 9 = 512 from rfl, hd]
theorem qc_ext {s : List Nat} (h : vd s) (hl : s.length < 7) {v : Nat} (hv : v < 256) : m_Row_extended (lN (rk 7 s)) (nI s.length) (nI v) = some (lN (rk 7 (s ++ [v + 1]))) := by
  have hx := vd_lt h
  obtain ⟨b, hb⟩ : ∃ b, rk 7 s = b * 512 ^ (7 - s.length) := ⟨_, rk_dvd (vd_512 h) h.1⟩
  have e5 : (512 : Nat) ^ (7 - s.length) = 512 ^ (6 - s.length) * 512 := by rw [← Nat.pow_succ]; congr 1; omega
  have hp := q5 (6 - s.length)
  have h3 : (v + 1) * 512 ^ (6 - s.length) ≤ 256 * 512 ^ (6 - s.length) := Nat.mul_le_mul_right _ (by omega)
  have hw : (v + 1) * 512 ^ (6 - s.length) < 512 ^ (7 - s.length) := by rw [e5]; omega
  have hP : (512 : Nat) ^ (7 - s.length) ≤ 512 ^ 7 := Nat.pow_le_pow_right (by decide) (by omega)
  have e7 : (512 : Nat) ^ 7 = 2 ^ 63 := by decide
  rw [hb] at hx
  unfold m_Row_extended
  rw [nI_1, nI_l (by omega), qa_s9 _ hl, wb_shl _ (by omega), q9, rk_snoc 7 _ s hl, hb, show 7 - 1 - s.length = 6 - s.length by omega, g_or (q9 _) hw (by omega)]
theorem qc_len_l {s : List Nat} (h : vd s) : ∀ (n i : Nat), i ≤ s.length → 7 - i < n → m_Row_lengthOf_l2 (lN (rk 7 s)) n (nI i) = some (nI s.length)
  | 0, _, _, h2 => by omega
  | n + 1, i, h1, h2 => by
    have hl := h.1
    rw [m_Row_lengthOf_l2]
    by_cases e7 : i = 7
    · have e : i = s.length := by omega
      have hc : (7 : Int32) ≤ nI i := nI_le (a := 7) (by omega) (by omega)
      rw [if_pos hc, e]
    · have hc : ¬ (7 : Int32) ≤ nI i := nI_ge (b := 7) (by omega) (by omega)
      rw [if_neg hc, qc_dig h (by omega), Option.bind_some]
      by_cases e : i = s.length
      · rw [getD_out (by omega), if_pos nI_0, e]
      · have hd := vd_get h (show i < s.length by omega)
        rw [if_neg (nI_ne0 (by omega) (by omega)), nI_1]
        exact qc_len_l h n (i + 1) (by omega) (by omega)
theorem qc_len {s : List Nat} (h : vd s) : m_Row_lengthOf (lN (rk 7 s)) = some (nI s.length) := by
  unfold m_Row_lengthOf
  have := qc_len_l h 100 0 (Nat.zero_le _) (by omega)
  rw [nI_0] at this
  rw [this]; rfl
theorem qc_com_l {s t : List Nat} (hs : vd s) (ht : vd t) (hn : s ≠ t) : ∀ (n i : Nat), i ≤ lc s t → 7 - i < n → m_Row_lengthInCommon_l3 (lN (rk 7 s)) (lN (rk 7 t)) n (nI i) = some (nI (lc s t))
  | 0, _, _, h2 => by omega
  | n + 1, i, h1, h2 => by
    have hl := lc_lt hs ht hn
    rw [m_Row_lengthInCommon_l3]
    have hc : ¬ (7 : Int32) ≤ nI i := nI_ge (b := 7) (by omega) (by omega)
    rw [if_neg hc, qc_dig hs (by omega), Option.bind_some, qc_dig ht (by omega), Option.bind_some]
    have ds : s.getD i 0 < 2 ^ 31 := by
      by_cases e : i < s.length
      · have := vd_get hs e; omega
      · rw [getD_out (by omega)]; decide
    have dt : t.getD i 0 < 2 ^ 31 := by
      by_cases e : i < t.length
      · have := vd_get ht e; omega
      · rw [getD_out (by omega)]; decide
    by_cases e : i = lc s t
    · subst e
      have := lc_ne s t (fun d hd => (hs.2 d hd).1) (fun d hd => (ht.2 d hd).1) hn
      rw [if_neg (fun e => this ((nI_eq ds dt).mp e))]
    · rw [if_pos (by rw [lc_get s t i (by omega)]), nI_1]
      exact qc_com_l hs ht hn n (i + 1) (by omega) (by omega)
theorem qc_com {s t : List Nat} (hs : vd s) (ht : vd t) (hn : s ≠ t) : m_Row_lengthInCommon (lN (rk 7 s)) (lN (rk 7 t)) = some (nI (lc s t)) := by
  unfold m_Row_lengthInCommon
  have := qc_com_l hs ht hn 100 0 (Nat.zero_le _) (by omega)
  rw [nI_0] at this
  rw [this]; rfl
theorem qc_word_l {s : List Nat} (h : vd s) : ∀ (n i : Nat), i ≤ s.length → s.length - i < n → m_Row_wordOf_l10 (lN (rk 7 s)) (nI s.length) n (lN (pr (s.take i))) (nI i) = some (lN (pr s), nI s.length)
  | 0, _, _, h2 => by omega
  | n + 1, i, h1, h2 => by
    have hl := h.1
    rw [m_Row_wordOf_l10]
    by_cases e : i = s.length
    · subst e
      rw [if_pos (nI_le (Nat.le_refl _) (by omega)), List.take_length]
    · have hi : i < s.length := by omega
      have hd := vd_get h hi
      have e1 : nI (s.getD i 0) - 1 = nI (s.getD i 0 - 1) := pk_sub (b := 1) hd.1
      have p1 := pr_lt (s.take i) (fun d hd => (h.2 d (List.mem_of_mem_take hd)).2)
      rw [List.length_take, Nat.min_eq_left h1] at p1
      have p2 : (s.getD i 0 - 1) * 256 ^ i ≤ 255 * 256 ^ i := Nat.mul_le_mul_right _ (by omega)
      have p3 : (256 : Nat) ^ i ≤ 256 ^ 6 := Nat.pow_le_pow_right (by decide) (by omega)
      have p4 : (256 : Nat) ^ 6 = 2 ^ 48 := by decide
      have p5 : lN (pr (s.take i)) ||| lN ((s.getD i 0 - 1) * 256 ^ i) = lN (pr (s.take (i + 1))) := by
        rw [g_or' (q2 i) p1 (by omega), take_snoc hi, pr_snoc, List.length_take, Nat.min_eq_left h1]
      rw [if_neg (nI_ge hi (by omega)), qc_dig h (by omega), Option.bind_some, e1, nI_l (by omega), qa_s8 i (by omega), wb_shl _ (by omega), q2, p5, nI_1]
      exact qc_word_l h n (i + 1) (by omega) (by omega)
theorem qc_word {s : List Nat} (h : vd s) : m_Row_wordOf (lN (rk 7 s)) = some (lN (pr s)) := by
  have hl := h.1
  unfold m_Row_wordOf
  have := qc_word_l h 100 0 (Nat.zero_le _) (by omega)
  rw [nI_0] at this
  rw [qc_len h, Option.bind_some]
  have e0 : (0 : Int64) = lN (pr (s.take 0)) := by rw [List.take_zero]; rfl
  rw [e0, this]; rfl
/-! serials -/
def sr (n : Nat) : List Nat := [n / 256 + 1, n % 256 + 1]
theorem sr_vd {n : Nat} (h : n < 65536) : vd (sr n) := ⟨Nat.le_of_ble_eq_true rfl, fun d hd => by
  unfold sr at hd
  simp only [List.mem_cons, List.not_mem_nil, or_false] at hd
  rcases hd with rfl | rfl <;> omega⟩
theorem qc_ser {n : Nat} (h : n < 65536) : m_Row_ofSerial (nI n) = some (lN (rk 7 (sr n))) := by
  unfold m_Row_ofSerial
  have e1 : nI n / 256 = nI (n / 256) := pk_div (d := 256) (by omega) (by decide) (by decide)
  have e2 : nI n - nI n / 256 * 256 = nI (n % 256) := pk_rem (d := 256) (by omega) (by decide) (by decide)
  rw [e2, e1]
  have h1 := qc_ext vd_nil (by decide) (v := n / 256) (by omega)
  have v1 : vd [n / 256 + 1] := ⟨Nat.le_of_ble_eq_true rfl, fun d hd => by
    simp only [List.mem_cons, List.not_mem_nil, or_false] at hd
    subst hd; omega⟩
  have h2 := qc_ext v1 (Nat.le_of_ble_eq_true rfl) (v := n % 256) (by omega)
  have h1' : m_Row_extended 0 0 (nI (n / 256)) = some (lN (rk 7 [n / 256 + 1])) := h1
  have h2' : m_Row_extended (lN (rk 7 [n / 256 + 1])) 1 (nI (n % 256)) = some (lN (rk 7 (sr n))) := h2
  rw [h1', Option.bind_some, h2', Option.bind_some]
theorem qm_ser {n : Nat} (h : n < 65536) : m_M_rowOf (nI n) = some (lN (pr (sr n))) := by
  unfold m_M_rowOf
  have e1 : nI n / 256 = nI (n / 256) := pk_div (d := 256) (by omega) (by decide) (by decide)
  have e2 : nI n - nI n / 256 * 256 = nI (n % 256) := pk_rem (d := 256) (by omega) (by decide) (by decide)
  have e3 : lN (n % 256) <<< ((8 : Int32).toInt64 &&& 63) = lN (n % 256 * 2 ^ 8) := wb_shl _ (k := 8) (by decide)
  have e4 : pr (sr n) = n / 256 + n % 256 * 2 ^ 8 := by
    show n / 256 + 1 - 1 + 256 * (n % 256 + 1 - 1 + 256 * 0) = _
    omega
  rw [e2, e1, nI_l (by omega), nI_l (by omega), e3, g_or' (k := 8) rfl (by omega) (by omega), e4]
theorem sr_inj {a b : Nat} (h : sr a = sr b) : a = b := by
  unfold sr at h
  injection h with h1 h2
  injection h2 with h2 h3
  omega
theorem sr_mono {a b : Nat} (h : a < b) : rk 7 (sr a) < rk 7 (sr b) := by
  show (a / 256 + 1) * 512 ^ 6 + ((a % 256 + 1) * 512 ^ 5 + 0) < (b / 256 + 1) * 512 ^ 6 + ((b % 256 + 1) * 512 ^ 5 + 0)
  omega
/-! the reference's functions -/
theorem qm_first {s : List Nat} (h : vd s) {k : Nat} (hk : k ≤ 7) : m_M_firstOf (lN (pr s)) (nI k) = some (lN (pr (s.take k))) := by
  have hx := vd_pr h
  unfold m_M_firstOf
  rw [qa_f8 k (by omega), wb_mask (by omega) (by omega), q2, pr_take s k (vd_256 h)]
theorem qb_sar {U i : Nat} (hi : i < 8) : (lN U >>> (((8 * nI i) : Int32).toInt64 &&& 63)) &&& 255 = lN (U / 2 ^ (8 * i) % 2 ^ 8) := by
  rw [qa_s8 i hi, wb_c _ (by omega)]
  apply wb_inj
  rw [Int64.toBitVec_and, Int64.toBitVec_shiftRight, wb_tb, wb_tb, wb_tb, wb_sm _ (by omega), show (255 : Int64).toBitVec = BitVec.ofNat 64 (2 ^ 8 - 1) from rfl]
  apply BitVec.eq_of_getLsbD_eq
  intro j hj
  rw [BitVec.getLsbD_and, BitVec.sshiftRight_eq', BitVec.getLsbD_sshiftRight, BitVec.getLsbD_ofNat, BitVec.getLsbD_ofNat, BitVec.getLsbD_ofNat, BitVec.toNat_ofNat, Nat.mod_eq_of_lt (show 8 * i < 2 ^ 64 by omega), Nat.testBit_two_pow_sub_one, Nat.testBit_mod_two_pow, Nat.testBit_div_two_pow]
  by_cases h8 : j < 8
  · have : 8 * i + j < 64 := by omega
    simp [h8, hj, this, Nat.add_comm j]
  · simp [h8]
theorem qm_byte {s : List Nat} (h : vd s) {i : Nat} (hi : i < 8) : (lN (pr s) >>> (((8 * nI i) : Int32).toInt64 &&& 63)) &&& 255 = lN (s.getD i 0 - 1) := by
  rw [qb_sar hi, q2, show (2 : Nat) ^ 8 = 256 from rfl, pr_dig s i (vd_256 h)]
theorem dig_le {s : List Nat} (h : vd s) (i : Nat) : s.getD i 0 ≤ 256 := by
  by_cases e : i < s.length
  · have := vd_get h e; omega
  · rw [getD_out (by omega)]; decide
theorem cmp_eq {a b : Nat} (ha : a < 2 ^ 63) (hb : b < 2 ^ 63) : lg_cmp (lN a) (lN b) = 0 ↔ a = b := by
  unfold lg_cmp
  rw [← pk_lEQ ha hb]
  split
  · rename_i h
    constructor
    · intro h2; exact absurd h2 (by decide)
    · intro h2; rw [h2] at h; exact absurd h (Int64.lt_irrefl)
  · split
    · rename_i h; exact ⟨fun _ => h, fun _ => rfl⟩
    · rename_i h; exact ⟨fun h2 => absurd h2 (by decide), fun h2 => absurd h2 h⟩
theorem cmp_ge {a b : Nat} (ha : a < 2 ^ 63) (hb : b < 2 ^ 63) : (0 : Int32) ≤ lg_cmp (lN a) (lN b) ↔ b ≤ a := by
  rw [lg_cmp_ge, pk_lLE hb ha]
theorem qm_begins {s t : List Nat} (hs : vd s) (ht : vd t) : m_M_begins (lN (pr s)) (nI s.length) (lN (pr t)) (nI t.length) = some (if s = t.take s.length then 1 else 0) := by
  have l1 := hs.1
  have l2 := ht.1
  unfold m_M_begins
  by_cases hl : t.length < s.length
  · rw [if_pos (nI_lt hl (by omega)), if_neg]
    intro e
    have := congrArg List.length e
    rw [List.length_take] at this
    omega
  · have p1 := vd_pr hs
    have p2 := vd_pr (vd_take ht s.length)
    rw [if_neg (nI_nlt (by omega) (by omega)), qm_first ht l1, Option.bind_some]
    by_cases e : s = t.take s.length
    · rw [if_pos e, if_pos ((cmp_eq (by omega) (by omega)).mpr (congrArg pr e))]
    · rw [if_neg e, if_neg]
      intro h2
      have h3 := (cmp_eq (by omega) (by omega)).mp h2
      exact e (pr_inj _ _ hs.2 (vd_take ht _).2 (by rw [List.length_take]; omega) h3)
theorem qm_com_l {s t : List Nat} (hs : vd s) (ht : vd t) : ∀ (n i : Nat), i ≤ lc s t → 7 - i < n → m_M_common_l3 (lN (pr s)) (nI s.length) (lN (pr t)) (nI t.length) n (nI i) = some (nI (lc s t))
  | 0, _, _, h2 => by omega
  | n + 1, i, h1, h2 => by
    have l1 := hs.1
    have l2 := ht.1
    have hl := lc_le s t
    rw [m_M_common_l3]
    by_cases e1 : s.length ≤ i
    · rw [if_pos (nI_le e1 (by omega)), show i = lc s t by omega]
    · rw [if_neg (nI_ge (by omega) (by omega))]
      by_cases e2 : t.length ≤ i
      · rw [if_pos (nI_le e2 (by omega)), show i = lc s t by omega]
      · rw [if_neg (nI_ge (by omega) (by omega)), qm_byte hs (by omega), qm_byte ht (by omega)]
        have d1 := vd_get hs (show i < s.length by omega)
        have d2 := vd_get ht (show i < t.length by omega)
        by_cases e : i = lc s t
        · subst e
          rw [if_neg]
          intro h3
          have h4 := (cmp_eq (by omega) (by omega)).mp h3
          have h5 : s.getD (lc s t) 0 = t.getD (lc s t) 0 := by omega
          by_cases hn : s = t
          · subst hn
            have : s.length ≤ lc s s := lc_max s s s.length (Nat.le_refl _) (Nat.le_refl _) rfl
            omega
          · exact lc_ne s t (fun d hd => (hs.2 d hd).1) (fun d hd => (ht.2 d hd).1) hn h5
        · rw [if_pos ((cmp_eq (by omega) (by omega)).mpr (by rw [lc_get s t i (by omega)])), nI_1]
          exact qm_com_l hs ht n (i + 1) (by omega) (by omega)
theorem qm_com {s t : List Nat} (hs : vd s) (ht : vd t) : m_M_common (lN (pr s)) (nI s.length) (lN (pr t)) (nI t.length) = some (nI (lc s t)) := by
  unfold m_M_common
  have := qm_com_l hs ht 100 0 (Nat.zero_le _) (by omega)
  rw [nI_0] at this
  rw [this]; rfl
/-! the order -/
theorem rk_ord : ∀ (k : Nat) (s t : List Nat), (∀ d ∈ s, d < 512) → (∀ d ∈ t, d < 512) → s.length ≤ k → t.length ≤ k → s.getD (lc s t) 0 < t.getD (lc s t) 0 → rk k s < rk k t
  | k, [], [], _, _, _, _, h => by simp [lc] at h
  | 0, _ :: _, _, _, _, h, _, _ => by simp at h
  | 0, _, _ :: _, _, _, _, h, _ => by simp at h
  | k + 1, [], b :: t, _, _, _, _, h => by
    have h' : 0 < b := h
    have h3 : 1 * 512 ^ k ≤ b * 512 ^ k := Nat.mul_le_mul_right _ h'
    have := q5 k
    rw [rk_nil, rk_cons]
    omega
  | k + 1, a :: s, [], _, _, _, _, h => by
    have h' : a < 0 := h
    omega
  | k + 1, a :: s, b :: t, hs, ht, h1, h2, h => by
    have l1 := rk_lt k s (fun x hx => hs x (List.mem_cons_of_mem _ hx))
    by_cases e : a = b
    · subst e
      have e2 : lc (a :: s) (a :: t) = lc s t + 1 := by simp [lc]
      rw [e2, List.getD_cons_succ, List.getD_cons_succ] at h
      have := rk_ord k s t (fun x hx => hs x (List.mem_cons_of_mem _ hx)) (fun x hx => ht x (List.mem_cons_of_mem _ hx)) (by simpa using h1) (by simpa using h2) h
      rw [rk_cons, rk_cons]
      omega
    · have e2 : lc (a :: s) (b :: t) = 0 := by simp [lc, e]
      rw [e2] at h
      have h' : a < b := h
      have h3 : (a + 1) * 512 ^ k ≤ b * 512 ^ k := Nat.mul_le_mul_right _ h'
      rw [Nat.add_mul, Nat.one_mul] at h3
      rw [rk_cons, rk_cons]
      omega
theorem vd_ord {s t : List Nat} (hs : vd s) (ht : vd t) : rk 7 s < rk 7 t ↔ s.getD (lc s t) 0 < t.getD (lc s t) 0 := by
  constructor
  · intro h
    apply Nat.lt_of_not_le
    intro h2
    by_cases e : s = t
    · subst e; omega
    · have h3 := lc_ne s t (fun d hd => (hs.2 d hd).1) (fun d hd => (ht.2 d hd).1) e
      have h4 := rk_ord 7 t s (vd_512 ht) (vd_512 hs) ht.1 hs.1 (by rw [lc_comm t s]; omega)
      omega
  · exact rk_ord 7 s t (vd_512 hs) (vd_512 ht) hs.1 ht.1
theorem qm_bef {s t : List Nat} (hs : vd s) (ht : vd t) : m_M_isBefore (lN (pr s)) (nI s.length) (lN (pr t)) (nI t.length) = some (if rk 7 s < rk 7 t then 1 else 0) := by
  have l1 := hs.1
  have l2 := ht.1
  have hl := lc_le s t
  unfold m_M_isBefore
  rw [qm_com hs ht, Option.bind_some]
  by_cases e1 : lc s t = s.length
  · rw [if_pos (by rw [e1])]
    by_cases e2 : t.length ≤ s.length
    · rw [if_pos (nI_le e2 (by omega)), if_neg]
      rw [vd_ord hs ht, getD_out (s := t) (by omega)]
      omega
    · have := vd_get ht (show lc s t < t.length by omega)
      rw [if_neg (nI_ge (by omega) (by omega)), if_pos]
      rw [vd_ord hs ht, getD_out (s := s) (by omega)]
      omega
  · rw [if_neg (fun e => e1 ((nI_eq (by omega) (by omega)).mp e))]
    have d1 := vd_get hs (show lc s t < s.length by omega)
    by_cases e2 : t.length ≤ lc s t
    · rw [if_pos (nI_le e2 (by omega)), if_neg]
      rw [vd_ord hs ht, getD_out (s := t) (by omega)]
      omega
    · have d2 := vd_get ht (show lc s t < t.length by omega)
      rw [if_neg (nI_ge (by omega) (by omega)), qm_byte hs (by omega), qm_byte ht (by omega)]
      by_cases e3 : t.getD (lc s t) 0 ≤ s.getD (lc s t) 0
      · rw [if_pos ((cmp_ge (by omega) (by omega)).mpr (by omega)), if_neg]
        rw [vd_ord hs ht]
        omega
      · rw [if_neg (fun h => e3 (by have := (cmp_ge (by omega) (by omega)).mp h; omega)), if_pos]
        rw [vd_ord hs ht]
        omega
