/-- the two states side by side, r rounds done -/
abbrev ZR (nm : Nat → Int64) (se ta : Nat → Int32) (nr : Nat → Int64) (nrs : Int32) (sw : Nat → Int64) (sws sz la su lC : Int32) (hd : Int64) (sf lw : Int32) (ct : Int32) (nm2 : Nat → Int64) (le2 se2 ta2 : Nat → Int32) (la2 : Int32) (hd2 : Int64) (hl2 fs off left made : Int32) (r : Nat) : Prop :=
  KR nm se ta nr nrs sw sws sz la ct nm2 le2 se2 ta2 la2 r ∧ (∃ H, vd H ∧ H ≠ [] ∧ hd = lN (rk 7 H) ∧ hd2 = lN (pr H) ∧ hl2 = nI H.length) ∧ PR su lC off left ∧ FR sf fs ∧ lw = made
theorem KR_up {nm : Nat → Int64} {se ta : Nat → Int32} {nr : Nat → Int64} {nrs : Int32} {sw : Nat → Int64} {sws sz la : Int32} {ct : Int32} {nm2 : Nat → Int64} {le2 se2 ta2 : Nat → Int32} {la2 : Int32} {k : Nat} (h : KR nm se ta nr nrs sw sws sz la ct nm2 le2 se2 ta2 la2 k) : KR nm se ta nr nrs sw sws sz la ct nm2 le2 se2 ta2 la2 (k + 1) := by
  obtain ⟨N, S, T, L, h1, h2, h3, h4⟩ := h
  exact ⟨N, S, T, L, h1, h2, h3, by omega⟩
theorem zin (r j L : Nat) (h : 4 * r + j < L) (hL : L < 2 ^ 31) : vp_in (nI (4 * r) + nI j) L := by
  rw [nI_add]
  exact vp_in_nI h hL
theorem zhd {r L : Nat} (hr : 4 * r < 2 ^ 30) (hL : L < 2 ^ 30) : (Int32.ofNat L - 4 < nI (4 * r)) ↔ L < 4 * r + 4 := by
  have e1 : (nI L - nI 4).toInt = (L : Int) - 4 := pk_sub_toInt hL (by decide)
  have e2 : (nI (4 * r)).toInt = ((4 * r : Nat) : Int) := nI_toInt (by omega)
  have h : (nI L - nI 4 < nI (4 * r)) ↔ L < 4 * r + 4 := by
    rw [Int32.lt_iff_toInt_lt, e1, e2]
    omega
  exact h
