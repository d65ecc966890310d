/-! Rows of bytes as lists of digits (a byte and one more): rk, as the system packs them; pr, as the reference does. -/
def rk : Nat → List Nat → Nat
  | _, [] => 0
  | 0, _ :: _ => 0
  | k + 1, d :: t => d * 512 ^ k + rk k t
def pr : List Nat → Nat
  | [] => 0
  | d :: t => (d - 1) + 256 * pr t
def vd (s : List Nat) : Prop := s.length ≤ 7 ∧ ∀ d ∈ s, 1 ≤ d ∧ d ≤ 256
def lc : List Nat → List Nat → Nat
  | a :: s, b :: t => if a = b then lc s t + 1 else 0
  | [], _ => 0
  | _ :: _, [] => 0
theorem rk_nil (k : Nat) : rk k [] = 0 := by cases k <;> rfl
theorem rk_cons (k d : Nat) (t : List Nat) : rk (k + 1) (d :: t) = d * 512 ^ k + rk k t := rfl
theorem q5 (k : Nat) : 0 < 512 ^ k := Nat.pow_pos (by decide)
theorem rk_lt : ∀ (k : Nat) (s : List Nat), (∀ d ∈ s, d < 512) → rk k s < 512 ^ k
  | k, [], _ => by rw [rk_nil]; exact q5 k
  | 0, _ :: _, _ => by show 0 < 1; decide
  | k + 1, d :: t, h => by
    have h1 := rk_lt k t (fun x hx => h x (List.mem_cons_of_mem _ hx))
    have h2 : d < 512 := h d List.mem_cons_self
    have h3 : d * 512 ^ k ≤ 511 * 512 ^ k := Nat.mul_le_mul_right _ (by omega)
    rw [rk_cons, Nat.pow_succ]
    omega
theorem rk_take : ∀ (k m : Nat) (s : List Nat), (∀ d ∈ s, d < 512) → m ≤ k → rk k (s.take m) = rk k s / 512 ^ (k - m) * 512 ^ (k - m)
  | k, m, [], _, _ => by rw [List.take_nil, rk_nil, Nat.zero_div, Nat.zero_mul]
  | k, 0, d :: t, h, _ => by
    rw [List.take_zero, rk_nil, Nat.sub_zero, Nat.div_eq_of_lt (rk_lt k _ h), Nat.zero_mul]
  | 0, m + 1, d :: t, _, hm => by omega
  | k + 1, m + 1, d :: t, h, hm => by
    have ih := rk_take k m t (fun x hx => h x (List.mem_cons_of_mem _ hx)) (by omega)
    have e1 : k + 1 - (m + 1) = k - m := by omega
    have e2 : (512 : Nat) ^ k = 512 ^ (k - m) * 512 ^ m := by rw [← Nat.pow_add]; congr 1; omega
    rw [List.take_succ_cons, rk_cons, rk_cons, e1, ih, e2, show d * (512 ^ (k - m) * 512 ^ m) = 512 ^ (k - m) * (d * 512 ^ m) by rw [Nat.mul_left_comm], Nat.mul_add_div (q5 _), Nat.add_mul, Nat.mul_comm (d * 512 ^ m)]
theorem rk_dig : ∀ (k i : Nat) (s : List Nat), (∀ d ∈ s, d < 512) → i < k → rk k s / 512 ^ (k - 1 - i) % 512 = s.getD i 0
  | k, i, [], _, _ => by rw [rk_nil, Nat.zero_div]; rfl
  | 0, i, d :: t, _, hi => by omega
  | k + 1, 0, d :: t, h, _ => by
    have h1 := rk_lt k t (fun x hx => h x (List.mem_cons_of_mem _ hx))
    have h2 : d < 512 := h d List.mem_cons_self
    rw [rk_cons, show k + 1 - 1 - 0 = k by omega, Nat.mul_comm, Nat.mul_add_div (q5 _), Nat.div_eq_of_lt h1, Nat.add_zero, Nat.mod_eq_of_lt h2]
    rfl
  | k + 1, i + 1, d :: t, h, hi => by
    have ih := rk_dig k i t (fun x hx => h x (List.mem_cons_of_mem _ hx)) (by omega)
    have e1 : k + 1 - 1 - (i + 1) = k - 1 - i := by omega
    have e2 : (512 : Nat) ^ k = 512 ^ (k - 1 - i) * (512 * 512 ^ i) := by
      rw [← Nat.pow_succ', ← Nat.pow_add]; congr 1; omega
    have e3 : d * 512 ^ k = 512 ^ (k - 1 - i) * (512 * (d * 512 ^ i)) := by
      rw [e2]; simp only [Nat.mul_comm, Nat.mul_left_comm, Nat.mul_assoc]
    rw [rk_cons, e1, e3, Nat.mul_add_div (q5 _), Nat.mul_add_mod, ih, List.getD_cons_succ]
theorem rk_snoc : ∀ (k d : Nat) (s : List Nat), s.length < k → rk k (s ++ [d]) = rk k s + d * 512 ^ (k - 1 - s.length)
  | 0, d, s, h => by omega
  | k + 1, d, [], _ => by
    show d * 512 ^ k + rk k [] = _
    rw [rk_nil, rk_nil]; simp
  | k + 1, d, a :: t, h => by
    have h' : t.length < k := by simpa using h
    have ih := rk_snoc k d t h'
    show a * 512 ^ k + rk k (t ++ [d]) = a * 512 ^ k + rk k t + _
    rw [ih, List.length_cons, show k + 1 - 1 - (t.length + 1) = k - 1 - t.length by omega, Nat.add_assoc]
theorem rk_dvd {k : Nat} {s : List Nat} (h : ∀ d ∈ s, d < 512) (hl : s.length ≤ k) : rk k s = rk k s / 512 ^ (k - s.length) * 512 ^ (k - s.length) := by
  have := rk_take k s.length s h hl
  rwa [List.take_length] at this
theorem rk_inj : ∀ (k : Nat) (s t : List Nat), (∀ d ∈ s, 1 ≤ d ∧ d < 512) → (∀ d ∈ t, 1 ≤ d ∧ d < 512) → s.length ≤ k → t.length ≤ k → rk k s = rk k t → s = t
  | k, [], [], _, _, _, _, _ => rfl
  | 0, _ :: _, _, _, _, h, _, _ => by simp at h
  | 0, _, _ :: _, _, _, _, h, _ => by simp at h
  | k + 1, [], d :: t, _, h, _, _, e => by
    have h2 := (h d List.mem_cons_self).1
    have h3 : 1 * 512 ^ k ≤ d * 512 ^ k := Nat.mul_le_mul_right _ h2
    have h4 := q5 k
    rw [rk_nil, rk_cons] at e
    omega
  | k + 1, d :: t, [], h, _, _, _, e => by
    have h2 := (h d List.mem_cons_self).1
    have h3 : 1 * 512 ^ k ≤ d * 512 ^ k := Nat.mul_le_mul_right _ h2
    have h4 := q5 k
    rw [rk_nil, rk_cons] at e
    omega
  | k + 1, a :: s, b :: t, hs, ht, h1, h2, e => by
    have l1 := rk_lt k s (fun x hx => (hs x (List.mem_cons_of_mem _ hx)).2)
    have l2 := rk_lt k t (fun x hx => (ht x (List.mem_cons_of_mem _ hx)).2)
    rw [rk_cons, rk_cons] at e
    have ea : a = b := by
      have := congrArg (· / 512 ^ k) e
      simp only [Nat.mul_comm _ (512 ^ k)] at this
      rw [Nat.mul_add_div (q5 _), Nat.mul_add_div (q5 _), Nat.div_eq_of_lt l1, Nat.div_eq_of_lt l2] at this
      omega
    subst ea
    have := rk_inj k s t (fun x hx => hs x (List.mem_cons_of_mem _ hx)) (fun x hx => ht x (List.mem_cons_of_mem _ hx)) (by simpa using h1) (by simpa using h2) (by omega)
    rw [this]
theorem vd_512 {s : List Nat} (h : vd s) : ∀ d ∈ s, d < 512 := fun d hd => by have := h.2 d hd; omega
theorem vd_12 {s : List Nat} (h : vd s) : ∀ d ∈ s, 1 ≤ d ∧ d < 512 := fun d hd => by have := h.2 d hd; omega
theorem vd_inj {s t : List Nat} (hs : vd s) (ht : vd t) (h : rk 7 s = rk 7 t) : s = t := rk_inj 7 s t (vd_12 hs) (vd_12 ht) hs.1 ht.1 h
theorem vd_lt {s : List Nat} (h : vd s) : rk 7 s < 2 ^ 63 := by
  have := rk_lt 7 s (vd_512 h)
  have e : (512 : Nat) ^ 7 = 2 ^ 63 := by decide
  omega
theorem vd_take {s : List Nat} (h : vd s) (m : Nat) : vd (s.take m) := ⟨by rw [List.length_take]; have := h.1; omega, fun d hd => h.2 d (List.mem_of_mem_take hd)⟩
theorem vd_get {s : List Nat} (h : vd s) {i : Nat} (hi : i < s.length) : 1 ≤ s.getD i 0 ∧ s.getD i 0 ≤ 256 := by
  rw [List.getD_eq_getElem?_getD, List.getElem?_eq_getElem hi]
  exact h.2 _ (List.getElem_mem hi)
theorem getD_out {s : List Nat} {i : Nat} (hi : s.length ≤ i) : s.getD i 0 = 0 := by
  rw [List.getD_eq_getElem?_getD, List.getElem?_eq_none hi]; rfl
theorem vd_nil : vd [] := ⟨by decide, fun d hd => by cases hd⟩
/-! the longest common beginning -/
theorem lc_le : ∀ (s t : List Nat), lc s t ≤ s.length ∧ lc s t ≤ t.length
  | [], t => by simp [lc]
  | a :: s, [] => by simp [lc]
  | a :: s, b :: t => by
    have := lc_le s t
    unfold lc
    split
    · simp only [List.length_cons]; omega
    · simp
theorem lc_take : ∀ (s t : List Nat), s.take (lc s t) = t.take (lc s t)
  | [], t => by simp [lc]
  | a :: s, [] => by simp [lc]
  | a :: s, b :: t => by
    unfold lc
    split
    · rename_i h; subst h; rw [List.take_succ_cons, List.take_succ_cons, lc_take s t]
    · simp
theorem lc_comm : ∀ (s t : List Nat), lc s t = lc t s
  | [], [] => rfl
  | [], b :: t => by simp [lc]
  | a :: s, [] => by simp [lc]
  | a :: s, b :: t => by
    have := lc_comm s t
    unfold lc
    by_cases h : a = b
    · subst h; simp [this]
    · have h' : ¬ b = a := fun e => h e.symm
      simp [h, h']
theorem lc_get : ∀ (s t : List Nat) (i : Nat), i < lc s t → s.getD i 0 = t.getD i 0
  | [], t, i, h => by simp [lc] at h
  | a :: s, [], i, h => by simp [lc] at h
  | a :: s, b :: t, i, h => by
    by_cases e : a = b
    · subst e
      cases i with
      | zero => rfl
      | succ i =>
        rw [List.getD_cons_succ, List.getD_cons_succ]
        exact lc_get s t i (by simp only [lc, if_pos] at h; omega)
    · simp [lc, e] at h
theorem lc_ne : ∀ (s t : List Nat), (∀ d ∈ s, 1 ≤ d) → (∀ d ∈ t, 1 ≤ d) → s ≠ t → s.getD (lc s t) 0 ≠ t.getD (lc s t) 0
  | [], [], _, _, h => absurd rfl h
  | [], b :: t, _, h, _ => by
    have := h b List.mem_cons_self
    show 0 ≠ b
    omega
  | a :: s, [], h, _, _ => by
    have := h a List.mem_cons_self
    show a ≠ 0
    omega
  | a :: s, b :: t, hs, ht, h => by
    by_cases e : a = b
    · subst e
      have := lc_ne s t (fun x hx => hs x (List.mem_cons_of_mem _ hx)) (fun x hx => ht x (List.mem_cons_of_mem _ hx)) (fun e => h (by rw [e]))
      have e2 : lc (a :: s) (a :: t) = lc s t + 1 := by simp [lc]
      rw [e2, List.getD_cons_succ, List.getD_cons_succ]
      exact this
    · have e2 : lc (a :: s) (b :: t) = 0 := by simp [lc, e]
      rw [e2]
      exact e
theorem lc_max : ∀ (s t : List Nat) (k : Nat), k ≤ s.length → k ≤ t.length → s.take k = t.take k → k ≤ lc s t
  | _, _, 0, _, _, _ => Nat.zero_le _
  | [], t, k + 1, h, _, _ => by simp at h
  | a :: s, [], k + 1, _, h, _ => by simp at h
  | a :: s, b :: t, k + 1, h1, h2, e => by
    rw [List.take_succ_cons, List.take_succ_cons] at e
    injection e with e1 e2
    subst e1
    have := lc_max s t k (by simpa using h1) (by simpa using h2) e2
    have e3 : lc (a :: s) (a :: t) = lc s t + 1 := by simp [lc]
    omega
theorem lc_lt {s t : List Nat} (hs : vd s) (ht : vd t) (h : s ≠ t) : lc s t < 7 := by
  have h1 := lc_le s t
  have h2 := lc_ne s t (fun d hd => (hs.2 d hd).1) (fun d hd => (ht.2 d hd).1) h
  have := hs.1
  have := ht.1
  apply Nat.lt_of_not_le
  intro h7
  exact h2 (by rw [getD_out (by omega), getD_out (by omega)])
/-! the reference's numbers -/
theorem pr_lt : ∀ (s : List Nat), (∀ d ∈ s, d ≤ 256) → pr s < 256 ^ s.length
  | [], _ => by show 0 < 1; decide
  | d :: t, h => by
    have h1 := pr_lt t (fun x hx => h x (List.mem_cons_of_mem _ hx))
    have h2 : d ≤ 256 := h d List.mem_cons_self
    show d - 1 + 256 * pr t < 256 ^ (t.length + 1)
    rw [Nat.pow_succ]
    omega
theorem pr_take : ∀ (s : List Nat) (k : Nat), (∀ d ∈ s, d ≤ 256) → pr (s.take k) = pr s % 256 ^ k
  | [], k, _ => by rw [List.take_nil]; exact (Nat.zero_mod _).symm
  | d :: t, 0, _ => by rw [List.take_zero, Nat.pow_zero, Nat.mod_one]; rfl
  | d :: t, k + 1, h => by
    have ih := pr_take t k (fun x hx => h x (List.mem_cons_of_mem _ hx))
    have h2 : d ≤ 256 := h d List.mem_cons_self
    show d - 1 + 256 * pr (t.take k) = (d - 1 + 256 * pr t) % 256 ^ (k + 1)
    have e : pr t = 256 ^ k * (pr t / 256 ^ k) + pr t % 256 ^ k := (Nat.div_add_mod _ _).symm
    have l : pr t % 256 ^ k < 256 ^ k := Nat.mod_lt _ (Nat.pow_pos (by decide))
    rw [ih, Nat.pow_succ']
    generalize pr t / 256 ^ k = q at e
    generalize pr t % 256 ^ k = r at e l
    rw [e, show d - 1 + 256 * (256 ^ k * q + r) = 256 * 256 ^ k * q + (d - 1 + 256 * r) by rw [Nat.mul_add, Nat.mul_assoc]; omega, Nat.mul_add_mod, Nat.mod_eq_of_lt (by omega)]
theorem pr_dig : ∀ (s : List Nat) (i : Nat), (∀ d ∈ s, d ≤ 256) → pr s / 256 ^ i % 256 = s.getD i 0 - 1
  | [], i, _ => by show 0 / _ % _ = _; rw [Nat.zero_div]; rfl
  | d :: t, 0, h => by
    have h2 : d ≤ 256 := h d List.mem_cons_self
    show (d - 1 + 256 * pr t) / 256 ^ 0 % 256 = d - 1
    rw [Nat.pow_zero, Nat.div_one]
    omega
  | d :: t, i + 1, h => by
    have ih := pr_dig t i (fun x hx => h x (List.mem_cons_of_mem _ hx))
    have h2 : d ≤ 256 := h d List.mem_cons_self
    rw [List.getD_cons_succ, ← ih]
    show (d - 1 + 256 * pr t) / 256 ^ (i + 1) % 256 = _
    rw [Nat.pow_succ', ← Nat.div_div_eq_div_mul, show (d - 1 + 256 * pr t) / 256 = pr t by omega]
theorem pr_inj : ∀ (s t : List Nat), (∀ d ∈ s, 1 ≤ d ∧ d ≤ 256) → (∀ d ∈ t, 1 ≤ d ∧ d ≤ 256) → s.length = t.length → pr s = pr t → s = t
  | [], [], _, _, _, _ => rfl
  | [], _ :: _, _, _, h, _ => by simp at h
  | _ :: _, [], _, _, h, _ => by simp at h
  | a :: s, b :: t, hs, ht, hl, e => by
    have h1 := hs a List.mem_cons_self
    have h2 := ht b List.mem_cons_self
    have e' : a - 1 + 256 * pr s = b - 1 + 256 * pr t := e
    have ea : a = b := by omega
    have es : pr s = pr t := by omega
    rw [ea, pr_inj s t (fun x hx => hs x (List.mem_cons_of_mem _ hx)) (fun x hx => ht x (List.mem_cons_of_mem _ hx)) (by simpa using hl) es]
theorem pr_snoc : ∀ (s : List Nat) (d : Nat), pr (s ++ [d]) = pr s + (d - 1) * 256 ^ s.length
  | [], d => by show d - 1 + 256 * 0 = 0 + (d - 1) * 1; omega
  | a :: t, d => by
    have ih := pr_snoc t d
    show a - 1 + 256 * pr (t ++ [d]) = a - 1 + 256 * pr t + (d - 1) * 256 ^ (t.length + 1)
    rw [ih, Nat.pow_succ', Nat.mul_add, Nat.mul_left_comm 256, Nat.add_assoc]
theorem vd_256 {s : List Nat} (h : vd s) : ∀ d ∈ s, d ≤ 256 := fun d hd => (h.2 d hd).2
theorem q2 (k : Nat) : (2 : Nat) ^ (8 * k) = 256 ^ k := by
  have : (2 : Nat) ^ 8 = 256 := rfl
  rw [Nat.pow_mul, this]
theorem q9 (k : Nat) : (2 : Nat) ^ (9 * k) = 512 ^ k := by
  have : (2 : Nat) ^ 9 = 512 := rfl
  rw [Nat.pow_mul, this]
theorem vd_pr {s : List Nat} (h : vd s) : pr s < 2 ^ 56 := by
  have h1 := pr_lt s (vd_256 h)
  have h2 : (256 : Nat) ^ s.length ≤ 256 ^ 7 := Nat.pow_le_pow_right (by decide) h.1
  have e : (256 : Nat) ^ 7 = 2 ^ 56 := by decide
  omega
