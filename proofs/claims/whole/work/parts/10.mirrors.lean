def thr {α β : Type} (o : Option (String ⊕ α)) (f : α → Option (String ⊕ β)) : Option (String ⊕ β) := match o with
  | none => none
  | some (.inl e) => some (.inl e)
  | some (.inr r) => f r
theorem thr_case {α β : Type} {o : Option (String ⊕ α)} {f : α → Option (String ⊕ β)} {u : String ⊕ β} (h : thr o f = some u) : (∃ E, o = some (.inl E) ∧ u = .inl E) ∨ ∃ r, o = some (.inr r) ∧ f r = some u := by
  unfold thr at h
  split at h
  · cases h
  · exact Or.inl ⟨_, rfl, (Option.some.inj h).symm⟩
  · exact Or.inr ⟨_, rfl, h⟩
def m_RowSet_copyFrom (a_rows : Nat → Int64) (b0_rows : Nat → Int64) (b0_size : Int32) : Option ((Nat → Int64) × Int32) :=
  if (0 : Int32) < 0 ∨ (0 : Int32) < 0 ∨ b0_size < 0 ∨ 24 < (0 : Int32).toNatClampNeg + b0_size.toNatClampNeg ∨ 24 < (0 : Int32).toNatClampNeg + b0_size.toNatClampNeg then none
  else some ((va_cpy b0_rows a_rows ((0 : Int32).toNatClampNeg) ((0 : Int32).toNatClampNeg) (b0_size.toNatClampNeg)), b0_size)

def m_Directory_copyFrom (a_names : Nat → Int64) (a_serials : Nat → Int32) (a_targets : Nat → Int32) (a_nameRows_rows : Nat → Int64) (a_serialRows_rows : Nat → Int64) (b0_names : Nat → Int64) (b0_serials : Nat → Int32) (b0_targets : Nat → Int32) (b0_nameRows_rows : Nat → Int64) (b0_nameRows_size : Int32) (b0_serialRows_rows : Nat → Int64) (b0_serialRows_size : Int32) (b0_size : Int32) (b0_latestSerial : Int32) : Option ((Nat → Int64) × (Nat → Int32) × (Nat → Int32) × (Nat → Int64) × Int32 × (Nat → Int64) × Int32 × Int32 × Int32) :=
  if (0 : Int32) < 0 ∨ (0 : Int32) < 0 ∨ b0_size < 0 ∨ 24 < (0 : Int32).toNatClampNeg + b0_size.toNatClampNeg ∨ 24 < (0 : Int32).toNatClampNeg + b0_size.toNatClampNeg then none
  else if (0 : Int32) < 0 ∨ (0 : Int32) < 0 ∨ b0_size < 0 ∨ 24 < (0 : Int32).toNatClampNeg + b0_size.toNatClampNeg ∨ 24 < (0 : Int32).toNatClampNeg + b0_size.toNatClampNeg then none
  else if (0 : Int32) < 0 ∨ (0 : Int32) < 0 ∨ b0_size < 0 ∨ 24 < (0 : Int32).toNatClampNeg + b0_size.toNatClampNeg ∨ 24 < (0 : Int32).toNatClampNeg + b0_size.toNatClampNeg then none
  else (m_RowSet_copyFrom a_nameRows_rows b0_nameRows_rows b0_nameRows_size).bind fun u1 =>
  (m_RowSet_copyFrom a_serialRows_rows b0_serialRows_rows b0_serialRows_size).bind fun u2 =>
  some ((va_cpy b0_names a_names ((0 : Int32).toNatClampNeg) ((0 : Int32).toNatClampNeg) (b0_size.toNatClampNeg)), (va_cpy b0_serials a_serials ((0 : Int32).toNatClampNeg) ((0 : Int32).toNatClampNeg) (b0_size.toNatClampNeg)), (va_cpy b0_targets a_targets ((0 : Int32).toNatClampNeg) ((0 : Int32).toNatClampNeg) (b0_size.toNatClampNeg)), u1.1, u1.2, u2.1, u2.2, b0_size, b0_latestSerial)

def m_Directory_entries (a_size : Int32) : Option (Int32) :=
  some (a_size)

def m_Directory_hasMostEntries (a_size : Int32) : Option (Int32) :=
  if a_size < 24 then some (0)
  else some (1)

def m_Directory_serialAt (x0 : Int32) (a_serials : Nat → Int32) : Option (Int32) :=
  if x0 < 0 ∨ 24 ≤ x0.toNatClampNeg then none
  else some ((a_serials x0.toNatClampNeg))

def m_Directory_nameAt (x0 : Int32) (a_names : Nat → Int64) : Option (Int64) :=
  if x0 < 0 ∨ 24 ≤ x0.toNatClampNeg then none
  else some ((a_names x0.toNatClampNeg))

def m_Directory_targetAt (x0 : Int32) (a_targets : Nat → Int32) : Option (Int32) :=
  if x0 < 0 ∨ 24 ≤ x0.toNatClampNeg then none
  else some ((a_targets x0.toNatClampNeg))

def m_Directory_indexOfName_l2 (l1 : Int64) (a_names : Nat → Int64) (a_size : Int32) : Nat → Int32 → Option (Int32)
  | 0, _ => none
  | n + 1, l3 =>
    if a_size ≤ l3 then some ((-1))
  else if l3 < 0 ∨ 24 ≤ l3.toNatClampNeg then none
  else if lg_cmp ((a_names l3.toNatClampNeg)) l1 = 0 then some (l3)
  else m_Directory_indexOfName_l2 l1 a_names a_size n ((l3 + 1))
def m_Directory_indexOfName (x0 : Int64) (a_names : Nat → Int64) (a_size : Int32) : Option (Int32) :=
  m_Directory_indexOfName_l2 x0 a_names a_size 100 0

def m_Directory_indexOfSerial_l2 (l1 : Int32) (a_serials : Nat → Int32) (a_size : Int32) : Nat → Int32 → Option (Int32)
  | 0, _ => none
  | n + 1, l2 =>
    if a_size ≤ l2 then some ((-1))
  else if l2 < 0 ∨ 24 ≤ l2.toNatClampNeg then none
  else if (a_serials l2.toNatClampNeg) = l1 then some (l2)
  else m_Directory_indexOfSerial_l2 l1 a_serials a_size n ((l2 + 1))
def m_Directory_indexOfSerial (x0 : Int32) (a_serials : Nat → Int32) (a_size : Int32) : Option (Int32) :=
  m_Directory_indexOfSerial_l2 x0 a_serials a_size 100 0

def m_Directory_indexAbove_l2 (l1 : Int32) (a_serials : Nat → Int32) (a_size : Int32) : Nat → Int32 → Option (Int32)
  | 0, _ => none
  | n + 1, l2 =>
    if a_size ≤ l2 then some ((-1))
  else if l2 < 0 ∨ 24 ≤ l2.toNatClampNeg then none
  else if (a_serials l2.toNatClampNeg) ≤ l1 then m_Directory_indexAbove_l2 l1 a_serials a_size n ((l2 + 1))
  else some (l2)
def m_Directory_indexAbove (x0 : Int32) (a_serials : Nat → Int32) (a_size : Int32) : Option (Int32) :=
  m_Directory_indexAbove_l2 x0 a_serials a_size 100 0

def m_Row_beginning (x0 : Int64) (x1 : Int32) : Option (Int64) :=
  some ((x0 &&& ((-1) <<< (((63 - (9 * x1)) : Int32).toInt64 &&& 63))))

def m_RowSet_rowsBefore_l2 (l1 : Int64) (a_rows : Nat → Int64) (a_size : Int32) : Nat → Int32 → Option (Int32)
  | 0, _ => none
  | n + 1, l3 =>
    if a_size ≤ l3 then some (l3)
  else if l3 < 0 ∨ 24 ≤ l3.toNatClampNeg then none
  else if (0 : Int32) ≤ lg_cmp ((a_rows l3.toNatClampNeg)) l1 then some (l3)
  else m_RowSet_rowsBefore_l2 l1 a_rows a_size n ((l3 + 1))
def m_RowSet_rowsBefore (x0 : Int64) (a_rows : Nat → Int64) (a_size : Int32) : Option (Int32) :=
  (m_RowSet_rowsBefore_l2 x0 a_rows a_size 100 0).bind fun u1 =>
  some (u1)

def m_RowSet_hasBeginning (x0 : Int32) (x1 : Int64) (x2 : Int32) (a_rows : Nat → Int64) : Option (Int32) :=
  if x0 < 0 ∨ 24 ≤ x0.toNatClampNeg then none
  else (m_Row_beginning ((a_rows x0.toNatClampNeg)) x2).bind fun u1 =>
  if lg_cmp u1 x1 = 0 then some (1)
  else some (0)

def m_RowSet_rowWith (x0 : Int64) (x1 : Int32) (x2 : Int32) (a_rows : Nat → Int64) (a_size : Int32) : Option (Int64) :=
  (m_RowSet_rowsBefore x0 a_rows a_size).bind fun u1 =>
  if x2 < 0 then some (0)
  else if (a_size - u1) ≤ x2 then some (0)
  else (m_RowSet_hasBeginning ((u1 + x2)) x0 x1 a_rows).bind fun u2 =>
  if u2 = 0 then some (0)
  else if ((u1 + x2) : Int32) < 0 ∨ 24 ≤ ((u1 + x2) : Int32).toNatClampNeg then none
  else some ((a_rows ((u1 + x2) : Int32).toNatClampNeg))

def m_Directory_indexListed (x0 : Int32) (x1 : Int64) (x2 : Int32) (a_names : Nat → Int64) (a_nameRows_rows : Nat → Int64) (a_nameRows_size : Int32) (a_size : Int32) : Option (Int32) :=
  (m_Row_beginning x1 x2).bind fun u1 =>
  (m_RowSet_rowWith u1 x2 x0 a_nameRows_rows a_nameRows_size).bind fun u2 =>
  (m_Directory_indexOfName u2 a_names a_size).bind fun u3 =>
  some (u3)

def m_Directory_namesBefore (x0 : Int64) (a_nameRows_rows : Nat → Int64) (a_nameRows_size : Int32) : Option (Int32) :=
  (m_RowSet_rowsBefore x0 a_nameRows_rows a_nameRows_size).bind fun u1 =>
  some (u1)

def m_RowSet_insert (x0 : Int64) (a_rows : Nat → Int64) (a_size : Int32) : Option ((Nat → Int64) × Int32) :=
  if a_size < 24 then (m_RowSet_rowsBefore x0 a_rows a_size).bind fun u1 =>
  if u1 < 0 ∨ ((u1 + 1) : Int32) < 0 ∨ ((a_size - u1) : Int32) < 0 ∨ 24 < u1.toNatClampNeg + ((a_size - u1) : Int32).toNatClampNeg ∨ 24 < ((u1 + 1) : Int32).toNatClampNeg + ((a_size - u1) : Int32).toNatClampNeg then none
  else if u1 < 0 ∨ 24 ≤ u1.toNatClampNeg then none
  else some ((vp_updL ((va_cpy a_rows a_rows (u1.toNatClampNeg) (((u1 + 1) : Int32).toNatClampNeg) (((a_size - u1) : Int32).toNatClampNeg))) u1.toNatClampNeg x0), (a_size + 1))
  else some (a_rows, a_size)

def m_Row_extended (x0 : Int64) (x1 : Int32) (x2 : Int32) : Option (Int64) :=
  some ((x0 ||| (((x2 + 1) : Int32).toInt64 <<< (((63 - (9 * (x1 + 1))) : Int32).toInt64 &&& 63))))

def m_Row_ofSerial (x0 : Int32) : Option (Int64) :=
  (m_Row_extended 0 0 ((x0 / 256))).bind fun u1 =>
  (m_Row_extended u1 1 ((x0 - x0 / 256 * 256))).bind fun u2 =>
  some (u2)

def m_Directory_enter (x0 : Int64) (x1 : Int32) (a_names : Nat → Int64) (a_serials : Nat → Int32) (a_targets : Nat → Int32) (a_nameRows_rows : Nat → Int64) (a_nameRows_size : Int32) (a_serialRows_rows : Nat → Int64) (a_serialRows_size : Int32) (a_size : Int32) (a_latestSerial : Int32) : Option (Int32 × (Nat → Int64) × (Nat → Int32) × (Nat → Int32) × (Nat → Int64) × Int32 × (Nat → Int64) × Int32 × Int32 × Int32) :=
  (m_Directory_hasMostEntries a_size).bind fun u1 =>
  if u1 = 0 then if a_size < 0 ∨ 24 ≤ a_size.toNatClampNeg then none
  else if a_size < 0 ∨ 24 ≤ a_size.toNatClampNeg then none
  else if a_size < 0 ∨ 24 ≤ a_size.toNatClampNeg then none
  else (m_RowSet_insert x0 a_nameRows_rows a_nameRows_size).bind fun u2 =>
  (m_Row_ofSerial ((a_latestSerial + 1))).bind fun u3 =>
  (m_RowSet_insert u3 a_serialRows_rows a_serialRows_size).bind fun u4 =>
  some ((a_latestSerial + 1), (vp_updL a_names a_size.toNatClampNeg x0), (upd a_serials a_size.toNatClampNeg ((a_latestSerial + 1))), (upd a_targets a_size.toNatClampNeg x1), u2.1, u2.2, u4.1, u4.2, (a_size + 1), (a_latestSerial + 1))
  else some ((-1), a_names, a_serials, a_targets, a_nameRows_rows, a_nameRows_size, a_serialRows_rows, a_serialRows_size, a_size, a_latestSerial)

def m_RowSet_take (x0 : Int64) (a_rows : Nat → Int64) (a_size : Int32) : Option ((Nat → Int64) × Int32) :=
  (m_RowSet_rowsBefore x0 a_rows a_size).bind fun u1 =>
  if a_size ≤ u1 then some (a_rows, a_size)
  else if u1 < 0 ∨ 24 ≤ u1.toNatClampNeg then none
  else if lg_cmp ((a_rows u1.toNatClampNeg)) x0 = 0 then if ((u1 + 1) : Int32) < 0 ∨ u1 < 0 ∨ (((a_size - 1) - u1) : Int32) < 0 ∨ 24 < ((u1 + 1) : Int32).toNatClampNeg + (((a_size - 1) - u1) : Int32).toNatClampNeg ∨ 24 < u1.toNatClampNeg + (((a_size - 1) - u1) : Int32).toNatClampNeg then none
  else some ((va_cpy a_rows a_rows (((u1 + 1) : Int32).toNatClampNeg) (u1.toNatClampNeg) ((((a_size - 1) - u1) : Int32).toNatClampNeg)), (a_size - 1))
  else some (a_rows, a_size)

def m_Directory_drop (x0 : Int32) (a_names : Nat → Int64) (a_serials : Nat → Int32) (a_targets : Nat → Int32) (a_nameRows_rows : Nat → Int64) (a_nameRows_size : Int32) (a_serialRows_rows : Nat → Int64) (a_serialRows_size : Int32) (a_size : Int32) : Option ((Nat → Int64) × (Nat → Int32) × (Nat → Int32) × (Nat → Int64) × Int32 × (Nat → Int64) × Int32 × Int32) :=
  if x0 < 0 ∨ 24 ≤ x0.toNatClampNeg then none
  else (m_RowSet_take ((a_names x0.toNatClampNeg)) a_nameRows_rows a_nameRows_size).bind fun u1 =>
  if x0 < 0 ∨ 24 ≤ x0.toNatClampNeg then none
  else (m_Row_ofSerial ((a_serials x0.toNatClampNeg))).bind fun u2 =>
  (m_RowSet_take u2 a_serialRows_rows a_serialRows_size).bind fun u3 =>
  if ((x0 + 1) : Int32) < 0 ∨ x0 < 0 ∨ (((a_size - 1) - x0) : Int32) < 0 ∨ 24 < ((x0 + 1) : Int32).toNatClampNeg + (((a_size - 1) - x0) : Int32).toNatClampNeg ∨ 24 < x0.toNatClampNeg + (((a_size - 1) - x0) : Int32).toNatClampNeg then none
  else if ((x0 + 1) : Int32) < 0 ∨ x0 < 0 ∨ (((a_size - 1) - x0) : Int32) < 0 ∨ 24 < ((x0 + 1) : Int32).toNatClampNeg + (((a_size - 1) - x0) : Int32).toNatClampNeg ∨ 24 < x0.toNatClampNeg + (((a_size - 1) - x0) : Int32).toNatClampNeg then none
  else if ((x0 + 1) : Int32) < 0 ∨ x0 < 0 ∨ (((a_size - 1) - x0) : Int32) < 0 ∨ 24 < ((x0 + 1) : Int32).toNatClampNeg + (((a_size - 1) - x0) : Int32).toNatClampNeg ∨ 24 < x0.toNatClampNeg + (((a_size - 1) - x0) : Int32).toNatClampNeg then none
  else some ((va_cpy a_names a_names (((x0 + 1) : Int32).toNatClampNeg) (x0.toNatClampNeg) ((((a_size - 1) - x0) : Int32).toNatClampNeg)), (va_cpy a_serials a_serials (((x0 + 1) : Int32).toNatClampNeg) (x0.toNatClampNeg) ((((a_size - 1) - x0) : Int32).toNatClampNeg)), (va_cpy a_targets a_targets (((x0 + 1) : Int32).toNatClampNeg) (x0.toNatClampNeg) ((((a_size - 1) - x0) : Int32).toNatClampNeg)), u1.1, u1.2, u3.1, u3.2, (a_size - 1))

def m_Directory_giveTarget (x0 : Int32) (x1 : Int32) (a_targets : Nat → Int32) : Option ((Nat → Int32)) :=
  if x0 < 0 ∨ 24 ≤ x0.toNatClampNeg then none
  else some ((upd a_targets x0.toNatClampNeg x1))

def m_Directory_giveName (x0 : Int32) (x1 : Int64) (a_names : Nat → Int64) (a_nameRows_rows : Nat → Int64) (a_nameRows_size : Int32) : Option ((Nat → Int64) × (Nat → Int64) × Int32) :=
  if x0 < 0 ∨ 24 ≤ x0.toNatClampNeg then none
  else (m_RowSet_take ((a_names x0.toNatClampNeg)) a_nameRows_rows a_nameRows_size).bind fun u1 =>
  (m_RowSet_insert x1 u1.1 u1.2).bind fun u2 =>
  if x0 < 0 ∨ 24 ≤ x0.toNatClampNeg then none
  else some ((vp_updL a_names x0.toNatClampNeg x1), u2.1, u2.2)

def m_Row_digitAt (x0 : Int64) (x1 : Int32) : Option (Int32) :=
  some ((((x0.toUInt64 >>> (((63 - (9 * (x1 + 1))) : Int32).toInt64.toUInt64 &&& Int64.toUInt64 63)).toInt64 : Int64).toInt32 &&& 511))

def m_Row_lengthInCommon_l3 (l0 : Int64) (l2 : Int64) : Nat → Int32 → Option (Int32)
  | 0, _ => none
  | n + 1, l4 =>
    if (7 : Int32) ≤ l4 then some (l4)
  else (m_Row_digitAt l0 l4).bind fun u5 =>
  (m_Row_digitAt l2 l4).bind fun u6 =>
  if u5 = u6 then m_Row_lengthInCommon_l3 l0 l2 n ((l4 + 1))
  else some (l4)
def m_Row_lengthInCommon (x0 : Int64) (x1 : Int64) : Option (Int32) :=
  (m_Row_lengthInCommon_l3 x0 x1 100 0).bind fun u7 =>
  some (u7)

def m_Row_lengthOf_l2 (l0 : Int64) : Nat → Int32 → Option (Int32)
  | 0, _ => none
  | n + 1, l2 =>
    if (7 : Int32) ≤ l2 then some (l2)
  else (m_Row_digitAt l0 l2).bind fun u3 =>
  if u3 = 0 then some (l2)
  else m_Row_lengthOf_l2 l0 n ((l2 + 1))
def m_Row_lengthOf (x0 : Int64) : Option (Int32) :=
  (m_Row_lengthOf_l2 x0 100 0).bind fun u4 =>
  some (u4)

def m_RowSet_isPlace_l27 (l2 : Int32) (l3 : Int64) (a_rows : Nat → Int64) (a_size : Int32) : Nat → Int32 → Option (Int32)
  | 0, _ => none
  | n + 1, l5 =>
    if a_size ≤ (l5 + 1) then some (l5)
  else (m_RowSet_hasBeginning ((l5 + 1)) l3 l2 a_rows).bind fun u4 =>
  if u4 = 0 then some (l5)
  else m_RowSet_isPlace_l27 l2 l3 a_rows a_size n ((l5 + 1))
def m_RowSet_isPlace (x0 : Int32) (x1 : Int32) (a_rows : Nat → Int64) (a_size : Int32) : Option (Int32) :=
  if x0 < 0 ∨ 24 ≤ x0.toNatClampNeg then none
  else (m_Row_beginning ((a_rows x0.toNatClampNeg)) x1).bind fun u1 =>
  if x0 < 0 ∨ 24 ≤ x0.toNatClampNeg then none
  else if lg_cmp ((a_rows x0.toNatClampNeg)) u1 = 0 then some (1)
  else (m_RowSet_isPlace_l27 x1 u1 a_rows a_size 100 x0).bind fun u5 =>
  if x0 < 0 ∨ 24 ≤ x0.toNatClampNeg then none
  else (m_Row_beginning ((a_rows x0.toNatClampNeg)) ((x1 + 1))).bind fun u6 =>
  if u5 < 0 ∨ 24 ≤ u5.toNatClampNeg then none
  else (m_Row_beginning ((a_rows u5.toNatClampNeg)) ((x1 + 1))).bind fun u7 =>
  if lg_cmp u6 u7 = 0 then some (0)
  else some (1)

def m_RowSet_places_l54 (l2 : Int32) (l4 : Int32) (a_rows : Nat → Int64) (a_size : Int32) : Nat → Int32 → Int32 → Option (Int32 × Int32)
  | 0, _, _ => none
  | n + 1, l1, l5 =>
    if l4 < l5 then some (l1, l5)
  else (m_RowSet_isPlace l2 l5 a_rows a_size).bind fun u5 =>
  if u5 = 0 then m_RowSet_places_l54 l2 l4 a_rows a_size n l1 ((l5 + 1))
  else m_RowSet_places_l54 l2 l4 a_rows a_size n ((l1 + 1)) ((l5 + 1))
def m_RowSet_places_l4 (a_rows : Nat → Int64) (a_size : Int32) : Nat → Int32 → Int32 → Option (Int32 × Int32)
  | 0, _, _ => none
  | n + 1, l1, l2 =>
    if a_size ≤ l2 then some (l1, l2)
  else if l2 = 0 then if l2 < 0 ∨ 24 ≤ l2.toNatClampNeg then none
  else (m_Row_lengthOf ((a_rows l2.toNatClampNeg))).bind fun u17 =>
  (m_RowSet_places_l54 l2 u17 a_rows a_size 100 l1 ((0 + 1))).bind fun u18 =>
  m_RowSet_places_l4 a_rows a_size n u18.1 ((l2 + 1))
  else if ((l2 - 1) : Int32) < 0 ∨ 24 ≤ ((l2 - 1) : Int32).toNatClampNeg then none
  else if l2 < 0 ∨ 24 ≤ l2.toNatClampNeg then none
  else (m_Row_lengthInCommon ((a_rows ((l2 - 1) : Int32).toNatClampNeg)) ((a_rows l2.toNatClampNeg))).bind fun u14 =>
  if l2 < 0 ∨ 24 ≤ l2.toNatClampNeg then none
  else (m_Row_lengthOf ((a_rows l2.toNatClampNeg))).bind fun u15 =>
  (m_RowSet_places_l54 l2 u15 a_rows a_size 100 l1 ((u14 + 1))).bind fun u16 =>
  m_RowSet_places_l4 a_rows a_size n u16.1 ((l2 + 1))
def m_RowSet_places (a_rows : Nat → Int64) (a_size : Int32) : Option (Int32) :=
  (m_RowSet_places_l4 a_rows a_size 100 1 0).bind fun u19 =>
  some (u19.1)

def m_Directory_freePages (a_nameRows_rows : Nat → Int64) (a_nameRows_size : Int32) (a_serialRows_rows : Nat → Int64) (a_serialRows_size : Int32) : Option (Int32) :=
  (m_RowSet_places a_nameRows_rows a_nameRows_size).bind fun u1 =>
  (m_RowSet_places a_serialRows_rows a_serialRows_size).bind fun u2 =>
  some (((60 - u1) - u2))

def m_RowSet_isPlaceAlong (x0 : Int64) (x1 : Int32) (a_rows : Nat → Int64) (a_size : Int32) : Option (Int32) :=
  if x1 = 0 then some (1)
  else (m_Row_beginning x0 x1).bind fun u1 =>
  (m_RowSet_rowsBefore u1 a_rows a_size).bind fun u2 =>
  if a_size ≤ u2 then some (0)
  else (m_RowSet_hasBeginning u2 u1 x1 a_rows).bind fun u3 =>
  if u3 = 0 then some (0)
  else (m_RowSet_isPlace u2 x1 a_rows a_size).bind fun u4 =>
  if u4 = 0 then some (0)
  else some (1)

def m_RowSet_placesAlong_l12 (l1 : Int64) (l4 : Int32) (a_rows : Nat → Int64) (a_size : Int32) : Nat → Int32 → Int32 → Option (Int32 × Int32)
  | 0, _, _ => none
  | n + 1, l5, l6 =>
    if l4 < l6 then some (l5, l6)
  else (m_RowSet_isPlaceAlong l1 l6 a_rows a_size).bind fun u4 =>
  if u4 = 0 then m_RowSet_placesAlong_l12 l1 l4 a_rows a_size n l5 ((l6 + 1))
  else m_RowSet_placesAlong_l12 l1 l4 a_rows a_size n ((l5 + 1)) ((l6 + 1))
def m_RowSet_placesAlong (x0 : Int64) (x1 : Int32) (a_rows : Nat → Int64) (a_size : Int32) : Option (Int32) :=
  (m_Row_lengthOf x0).bind fun u1 =>
  (m_RowSet_placesAlong_l12 x0 u1 a_rows a_size 100 0 x1).bind fun u5 =>
  some (u5.1)

def m_Directory_pagesOfName (x0 : Int64) (a_nameRows_rows : Nat → Int64) (a_nameRows_size : Int32) : Option (Int32) :=
  (m_RowSet_placesAlong x0 0 a_nameRows_rows a_nameRows_size).bind fun u1 =>
  some (u1)

def m_Directory_pagesOfNames (x0 : Int64) (x1 : Int64) (a_nameRows_rows : Nat → Int64) (a_nameRows_size : Int32) : Option (Int32) :=
  (m_Row_lengthInCommon x0 x1).bind fun u1 =>
  (m_RowSet_placesAlong x0 0 a_nameRows_rows a_nameRows_size).bind fun u2 =>
  (m_RowSet_placesAlong x1 ((u1 + 1)) a_nameRows_rows a_nameRows_size).bind fun u3 =>
  some ((u2 + u3))

def m_Directory_pagesOfSerial (x0 : Int32) (a_serialRows_rows : Nat → Int64) (a_serialRows_size : Int32) : Option (Int32) :=
  (m_Row_ofSerial x0).bind fun u1 =>
  (m_RowSet_placesAlong u1 0 a_serialRows_rows a_serialRows_size).bind fun u2 =>
  some (u2)

def m_Power_isSupplied (a_supplied : Int32) : Option (Int32) :=
  some (a_supplied)

def m_Power_allow (x0 : Int32) : Option (Int32) :=
  some (x0)

def m_Power_restore  : Option (Int32 × Int32) :=
  some (1, (-1))

def m_Power_write (x0 : Int32) (a_supplied : Int32) (a_writesLeft : Int32) : Option (Int32 × Int32 × Int32) :=
  if a_writesLeft = (-1) then some (x0, a_supplied, a_writesLeft)
  else if (if a_writesLeft < x0 then a_writesLeft else x0) = x0 then some ((if a_writesLeft < x0 then a_writesLeft else x0), 1, (a_writesLeft - (if a_writesLeft < x0 then a_writesLeft else x0)))
  else some ((if a_writesLeft < x0 then a_writesLeft else x0), 0, (a_writesLeft - (if a_writesLeft < x0 then a_writesLeft else x0)))

def m_Row_wordOf_l10 (l0 : Int64) (l2 : Int32) : Nat → Int64 → Int32 → Option (Int64 × Int32)
  | 0, _, _ => none
  | n + 1, l3, l5 =>
    if l2 ≤ l5 then some (l3, l5)
  else (m_Row_digitAt l0 l5).bind fun u4 =>
  m_Row_wordOf_l10 l0 l2 n ((l3 ||| (((u4 - 1) : Int32).toInt64 <<< (((8 * l5) : Int32).toInt64 &&& 63)))) ((l5 + 1))
def m_Row_wordOf (x0 : Int64) : Option (Int64) :=
  (m_Row_lengthOf x0).bind fun u1 =>
  (m_Row_wordOf_l10 x0 u1 100 0 0).bind fun u5 =>
  some (u5.1)

def m_L_name_l25 (l1 : Int64) (l3 : Int32) : Nat → Int64 → Int32 → Option (String ⊕ (Int64))
  | 0, _, _ => none
  | n + 1, l4, l6 =>
    if l3 ≤ l6 then some (.inr (l4))
  else if (((l1.toUInt64 >>> (((8 * l6) : Int32).toInt64.toUInt64 &&& Int64.toUInt64 63)).toInt64 : Int64).toInt32 &&& 255) = 0 then some (.inl "java/lang/IllegalArgumentException")
  else if (((l1.toUInt64 >>> (((8 * l6) : Int32).toInt64.toUInt64 &&& Int64.toUInt64 63)).toInt64 : Int64).toInt32 &&& 255) = 47 then some (.inl "java/lang/IllegalArgumentException")
  else (m_Row_extended l4 l6 ((((l1.toUInt64 >>> (((8 * l6) : Int32).toInt64.toUInt64 &&& Int64.toUInt64 63)).toInt64 : Int64).toInt32 &&& 255))).bind fun u3 =>
  m_L_name_l25 l1 l3 n u3 ((l6 + 1))
def m_L_name (x0 : Int64) (x1 : Int32) : Option (String ⊕ (Int64)) :=
  if x1 < 1 then some (.inl "java/lang/IllegalArgumentException")
  else if x1 ≤ 7 then m_L_name_l25 x0 x1 100 0 0
  else some (.inl "java/lang/IllegalArgumentException")

def m_L_requirePower (a_power_supplied : Int32) : Option (String ⊕ (Unit)) :=
  (m_Power_isSupplied a_power_supplied).bind fun u1 =>
  if u1 = 0 then some (.inl "java/lang/IllegalStateException")
  else some (.inr ())

def m_L_carryOut (x0 : Int32) (x1 : Int32) (a_held_nameRows_rows : Nat → Int64) (a_held_nameRows_size : Int32) (a_held_serialRows_rows : Nat → Int64) (a_held_serialRows_size : Int32) (a_power_supplied : Int32) (a_power_writesLeft : Int32) (a_latestWrites : Int32) : Option (Int32 × Int32 × Int32 × Int32 × Bool) :=
  (m_Directory_freePages a_held_nameRows_rows a_held_nameRows_size a_held_serialRows_rows a_held_serialRows_size).bind fun u1 =>
  if x0 ≤ u1 then (m_Power_write ((x0 + 1)) a_power_supplied a_power_writesLeft).bind fun u2 =>
  if x0 < u2.1 then some (x1, u2.2.1, u2.2.2, u2.1, true)
  else some ((-3), u2.2.1, u2.2.2, u2.1, false)
  else some ((-2), a_power_supplied, a_power_writesLeft, a_latestWrites, false)

def m_L_add (x0 : Int32) (a_held_names : Nat → Int64) (a_held_serials : Nat → Int32) (a_held_targets : Nat → Int32) (a_held_nameRows_rows : Nat → Int64) (a_held_nameRows_size : Int32) (a_held_serialRows_rows : Nat → Int64) (a_held_serialRows_size : Int32) (a_held_size : Int32) (a_held_latestSerial : Int32) (a_draft_names : Nat → Int64) (a_draft_serials : Nat → Int32) (a_draft_targets : Nat → Int32) (a_draft_nameRows_rows : Nat → Int64) (a_draft_nameRows_size : Int32) (a_draft_serialRows_rows : Nat → Int64) (a_draft_serialRows_size : Int32) (a_draft_size : Int32) (a_draft_latestSerial : Int32) (a_power_supplied : Int32) (a_power_writesLeft : Int32) (a_nameAtHand : Int64) (a_latestWrites : Int32) : Option (String ⊕ (Int32 × (Nat → Int64) × (Nat → Int32) × (Nat → Int32) × (Nat → Int64) × Int32 × (Nat → Int64) × Int32 × Int32 × Int32 × Int32 × Int32 × Int32 × Bool)) :=
  thr (m_L_requirePower a_power_supplied) fun u1r =>
  (m_Directory_indexOfName a_nameAtHand a_held_names a_held_size).bind fun u2 =>
  if u2 = (-1) then (m_Directory_hasMostEntries a_held_size).bind fun u3 =>
  if u3 = 0 then (m_Directory_copyFrom a_draft_names a_draft_serials a_draft_targets a_draft_nameRows_rows a_draft_serialRows_rows a_held_names a_held_serials a_held_targets a_held_nameRows_rows a_held_nameRows_size a_held_serialRows_rows a_held_serialRows_size a_held_size a_held_latestSerial).bind fun u4 =>
  (m_Directory_enter a_nameAtHand x0 u4.1 u4.2.1 u4.2.2.1 u4.2.2.2.1 u4.2.2.2.2.1 u4.2.2.2.2.2.1 u4.2.2.2.2.2.2.1 u4.2.2.2.2.2.2.2.1 u4.2.2.2.2.2.2.2.2).bind fun u5 =>
  (m_Directory_pagesOfName a_nameAtHand u5.2.2.2.2.1 u5.2.2.2.2.2.1).bind fun u6 =>
  (m_Directory_pagesOfSerial u5.1 u5.2.2.2.2.2.2.1 u5.2.2.2.2.2.2.2.1).bind fun u7 =>
  (m_L_carryOut ((u6 + u7)) u5.1 a_held_nameRows_rows a_held_nameRows_size a_held_serialRows_rows a_held_serialRows_size a_power_supplied a_power_writesLeft a_latestWrites).bind fun u8 =>
  some (.inr (u8.1, u5.2.1, u5.2.2.1, u5.2.2.2.1, u5.2.2.2.2.1, u5.2.2.2.2.2.1, u5.2.2.2.2.2.2.1, u5.2.2.2.2.2.2.2.1, u5.2.2.2.2.2.2.2.2.1, u5.2.2.2.2.2.2.2.2.2, u8.2.1, u8.2.2.1, u8.2.2.2.1, u8.2.2.2.2))
  else some (.inr ((-2), a_draft_names, a_draft_serials, a_draft_targets, a_draft_nameRows_rows, a_draft_nameRows_size, a_draft_serialRows_rows, a_draft_serialRows_size, a_draft_size, a_draft_latestSerial, a_power_supplied, a_power_writesLeft, a_latestWrites, false))
  else some (.inr ((-1), a_draft_names, a_draft_serials, a_draft_targets, a_draft_nameRows_rows, a_draft_nameRows_size, a_draft_serialRows_rows, a_draft_serialRows_size, a_draft_size, a_draft_latestSerial, a_power_supplied, a_power_writesLeft, a_latestWrites, false))

def m_L_remove (a_held_names : Nat → Int64) (a_held_serials : Nat → Int32) (a_held_targets : Nat → Int32) (a_held_nameRows_rows : Nat → Int64) (a_held_nameRows_size : Int32) (a_held_serialRows_rows : Nat → Int64) (a_held_serialRows_size : Int32) (a_held_size : Int32) (a_held_latestSerial : Int32) (a_draft_names : Nat → Int64) (a_draft_serials : Nat → Int32) (a_draft_targets : Nat → Int32) (a_draft_nameRows_rows : Nat → Int64) (a_draft_nameRows_size : Int32) (a_draft_serialRows_rows : Nat → Int64) (a_draft_serialRows_size : Int32) (a_draft_size : Int32) (a_draft_latestSerial : Int32) (a_power_supplied : Int32) (a_power_writesLeft : Int32) (a_nameAtHand : Int64) (a_latestWrites : Int32) : Option (String ⊕ (Int32 × (Nat → Int64) × (Nat → Int32) × (Nat → Int32) × (Nat → Int64) × Int32 × (Nat → Int64) × Int32 × Int32 × Int32 × Int32 × Int32 × Int32 × Bool)) :=
  thr (m_L_requirePower a_power_supplied) fun u1r =>
  (m_Directory_indexOfName a_nameAtHand a_held_names a_held_size).bind fun u2 =>
  if u2 = (-1) then some (.inr ((-1), a_draft_names, a_draft_serials, a_draft_targets, a_draft_nameRows_rows, a_draft_nameRows_size, a_draft_serialRows_rows, a_draft_serialRows_size, a_draft_size, a_draft_latestSerial, a_power_supplied, a_power_writesLeft, a_latestWrites, false))
  else (m_Directory_serialAt u2 a_held_serials).bind fun u3 =>
  (m_Directory_copyFrom a_draft_names a_draft_serials a_draft_targets a_draft_nameRows_rows a_draft_serialRows_rows a_held_names a_held_serials a_held_targets a_held_nameRows_rows a_held_nameRows_size a_held_serialRows_rows a_held_serialRows_size a_held_size a_held_latestSerial).bind fun u4 =>
  (m_Directory_drop u2 u4.1 u4.2.1 u4.2.2.1 u4.2.2.2.1 u4.2.2.2.2.1 u4.2.2.2.2.2.1 u4.2.2.2.2.2.2.1 u4.2.2.2.2.2.2.2.1).bind fun u5 =>
  (m_Directory_pagesOfName a_nameAtHand u5.2.2.2.1 u5.2.2.2.2.1).bind fun u6 =>
  (m_Directory_pagesOfSerial u3 u5.2.2.2.2.2.1 u5.2.2.2.2.2.2.1).bind fun u7 =>
  (m_L_carryOut ((u6 + u7)) u3 a_held_nameRows_rows a_held_nameRows_size a_held_serialRows_rows a_held_serialRows_size a_power_supplied a_power_writesLeft a_latestWrites).bind fun u8 =>
  some (.inr (u8.1, u5.1, u5.2.1, u5.2.2.1, u5.2.2.2.1, u5.2.2.2.2.1, u5.2.2.2.2.2.1, u5.2.2.2.2.2.2.1, u5.2.2.2.2.2.2.2, u4.2.2.2.2.2.2.2.2, u8.2.1, u8.2.2.1, u8.2.2.2.1, u8.2.2.2.2))

def m_L_replace (x0 : Int32) (a_held_names : Nat → Int64) (a_held_serials : Nat → Int32) (a_held_targets : Nat → Int32) (a_held_nameRows_rows : Nat → Int64) (a_held_nameRows_size : Int32) (a_held_serialRows_rows : Nat → Int64) (a_held_serialRows_size : Int32) (a_held_size : Int32) (a_held_latestSerial : Int32) (a_draft_names : Nat → Int64) (a_draft_serials : Nat → Int32) (a_draft_targets : Nat → Int32) (a_draft_nameRows_rows : Nat → Int64) (a_draft_nameRows_size : Int32) (a_draft_serialRows_rows : Nat → Int64) (a_draft_serialRows_size : Int32) (a_draft_size : Int32) (a_draft_latestSerial : Int32) (a_power_supplied : Int32) (a_power_writesLeft : Int32) (a_nameAtHand : Int64) (a_latestWrites : Int32) : Option (String ⊕ (Int32 × (Nat → Int64) × (Nat → Int32) × (Nat → Int32) × (Nat → Int64) × Int32 × (Nat → Int64) × Int32 × Int32 × Int32 × Int32 × Int32 × Int32 × Bool)) :=
  thr (m_L_requirePower a_power_supplied) fun u1r =>
  (m_Directory_indexOfName a_nameAtHand a_held_names a_held_size).bind fun u2 =>
  if u2 = (-1) then some (.inr ((-1), a_draft_names, a_draft_serials, a_draft_targets, a_draft_nameRows_rows, a_draft_nameRows_size, a_draft_serialRows_rows, a_draft_serialRows_size, a_draft_size, a_draft_latestSerial, a_power_supplied, a_power_writesLeft, a_latestWrites, false))
  else (m_Directory_copyFrom a_draft_names a_draft_serials a_draft_targets a_draft_nameRows_rows a_draft_serialRows_rows a_held_names a_held_serials a_held_targets a_held_nameRows_rows a_held_nameRows_size a_held_serialRows_rows a_held_serialRows_size a_held_size a_held_latestSerial).bind fun u3 =>
  (m_Directory_giveTarget u2 x0 u3.2.2.1).bind fun u4 =>
  (m_Directory_pagesOfName a_nameAtHand u3.2.2.2.1 u3.2.2.2.2.1).bind fun u5 =>
  (m_Directory_serialAt u2 a_held_serials).bind fun u6 =>
  (m_L_carryOut u5 u6 a_held_nameRows_rows a_held_nameRows_size a_held_serialRows_rows a_held_serialRows_size a_power_supplied a_power_writesLeft a_latestWrites).bind fun u7 =>
  some (.inr (u7.1, u3.1, u3.2.1, u4, u3.2.2.2.1, u3.2.2.2.2.1, u3.2.2.2.2.2.1, u3.2.2.2.2.2.2.1, u3.2.2.2.2.2.2.2.1, u3.2.2.2.2.2.2.2.2, u7.2.1, u7.2.2.1, u7.2.2.2.1, u7.2.2.2.2))

def m_L_rename (x0 : Int32) (a_held_names : Nat → Int64) (a_held_serials : Nat → Int32) (a_held_targets : Nat → Int32) (a_held_nameRows_rows : Nat → Int64) (a_held_nameRows_size : Int32) (a_held_serialRows_rows : Nat → Int64) (a_held_serialRows_size : Int32) (a_held_size : Int32) (a_held_latestSerial : Int32) (a_draft_names : Nat → Int64) (a_draft_serials : Nat → Int32) (a_draft_targets : Nat → Int32) (a_draft_nameRows_rows : Nat → Int64) (a_draft_nameRows_size : Int32) (a_draft_serialRows_rows : Nat → Int64) (a_draft_serialRows_size : Int32) (a_draft_size : Int32) (a_draft_latestSerial : Int32) (a_power_supplied : Int32) (a_power_writesLeft : Int32) (a_nameAtHand : Int64) (a_latestWrites : Int32) : Option (String ⊕ (Int32 × (Nat → Int64) × (Nat → Int32) × (Nat → Int32) × (Nat → Int64) × Int32 × (Nat → Int64) × Int32 × Int32 × Int32 × Int32 × Int32 × Int32 × Bool)) :=
  thr (m_L_requirePower a_power_supplied) fun u1r =>
  (m_Directory_indexOfSerial x0 a_held_serials a_held_size).bind fun u2 =>
  if u2 = (-1) then some (.inl "java/util/NoSuchElementException")
  else (m_Directory_indexOfName a_nameAtHand a_held_names a_held_size).bind fun u3 =>
  if u3 = (-1) then (m_Directory_nameAt u2 a_held_names).bind fun u4 =>
  (m_Directory_copyFrom a_draft_names a_draft_serials a_draft_targets a_draft_nameRows_rows a_draft_serialRows_rows a_held_names a_held_serials a_held_targets a_held_nameRows_rows a_held_nameRows_size a_held_serialRows_rows a_held_serialRows_size a_held_size a_held_latestSerial).bind fun u5 =>
  (m_Directory_giveName u2 a_nameAtHand u5.1 u5.2.2.2.1 u5.2.2.2.2.1).bind fun u6 =>
  (m_Directory_pagesOfNames u4 a_nameAtHand u6.2.1 u6.2.2).bind fun u7 =>
  (m_Directory_pagesOfSerial x0 u5.2.2.2.2.2.1 u5.2.2.2.2.2.2.1).bind fun u8 =>
  (m_L_carryOut ((u7 + u8)) x0 a_held_nameRows_rows a_held_nameRows_size a_held_serialRows_rows a_held_serialRows_size a_power_supplied a_power_writesLeft a_latestWrites).bind fun u9 =>
  some (.inr (u9.1, u6.1, u5.2.1, u5.2.2.1, u6.2.1, u6.2.2, u5.2.2.2.2.2.1, u5.2.2.2.2.2.2.1, u5.2.2.2.2.2.2.2.1, u5.2.2.2.2.2.2.2.2, u9.2.1, u9.2.2.1, u9.2.2.2.1, u9.2.2.2.2))
  else some (.inr ((-1), a_draft_names, a_draft_serials, a_draft_targets, a_draft_nameRows_rows, a_draft_nameRows_size, a_draft_serialRows_rows, a_draft_serialRows_size, a_draft_size, a_draft_latestSerial, a_power_supplied, a_power_writesLeft, a_latestWrites, false))

def m_L_find (a_held_names : Nat → Int64) (a_held_targets : Nat → Int32) (a_held_size : Int32) (a_power_supplied : Int32) (a_nameAtHand : Int64) : Option (String ⊕ (Int32)) :=
  thr (m_L_requirePower a_power_supplied) fun u1r =>
  (m_Directory_indexOfName a_nameAtHand a_held_names a_held_size).bind fun u2 =>
  if u2 = (-1) then some (.inl "java/util/NoSuchElementException")
  else (m_Directory_targetAt u2 a_held_targets).bind fun u3 =>
  some (.inr (u3))

def m_L_serialAtOrNone (x0 : Int32) (a_held_serials : Nat → Int32) : Option (Int32) :=
  if x0 = (-1) then some ((-1))
  else (m_Directory_serialAt x0 a_held_serials).bind fun u1 =>
  some (u1)

def m_L_serial (a_held_names : Nat → Int64) (a_held_serials : Nat → Int32) (a_held_size : Int32) (a_power_supplied : Int32) (a_nameAtHand : Int64) : Option (String ⊕ (Int32)) :=
  thr (m_L_requirePower a_power_supplied) fun u1r =>
  (m_Directory_indexOfName a_nameAtHand a_held_names a_held_size).bind fun u2 =>
  (m_L_serialAtOrNone u2 a_held_serials).bind fun u3 =>
  some (.inr (u3))

def m_L_next (x0 : Int32) (a_held_serials : Nat → Int32) (a_held_size : Int32) (a_power_supplied : Int32) : Option (String ⊕ (Int32 × Int32)) :=
  thr (m_L_requirePower a_power_supplied) fun u1r =>
  (m_Directory_indexAbove x0 a_held_serials a_held_size).bind fun u2 =>
  (m_L_serialAtOrNone u2 a_held_serials).bind fun u3 =>
  some (.inr (u3, u3))

def m_L_listed (x0 : Int32) (x1 : Int32) (a_held_names : Nat → Int64) (a_held_serials : Nat → Int32) (a_held_nameRows_rows : Nat → Int64) (a_held_nameRows_size : Int32) (a_held_size : Int32) (a_power_supplied : Int32) (a_nameAtHand : Int64) : Option (String ⊕ (Int32 × Int32)) :=
  thr (m_L_requirePower a_power_supplied) fun u1r =>
  if x1 < 0 then some (.inl "java/lang/IllegalArgumentException")
  else (m_Row_lengthOf a_nameAtHand).bind fun u2 =>
  if x1 ≤ u2 then (m_Directory_indexListed x0 a_nameAtHand x1 a_held_names a_held_nameRows_rows a_held_nameRows_size a_held_size).bind fun u3 =>
  (m_L_serialAtOrNone u3 a_held_serials).bind fun u4 =>
  some (.inr (u4, u4))
  else some (.inl "java/lang/IllegalArgumentException")

def m_L_rank (a_held_nameRows_rows : Nat → Int64) (a_held_nameRows_size : Int32) (a_power_supplied : Int32) (a_nameAtHand : Int64) : Option (String ⊕ (Int32)) :=
  thr (m_L_requirePower a_power_supplied) fun u1r =>
  (m_Directory_namesBefore a_nameAtHand a_held_nameRows_rows a_held_nameRows_size).bind fun u2 =>
  some (.inr (u2))

def m_L_found (a_held_names : Nat → Int64) (a_held_serials : Nat → Int32) (a_held_size : Int32) (a_power_supplied : Int32) (a_serialFound : Int32) : Option (String ⊕ (Int64)) :=
  thr (m_L_requirePower a_power_supplied) fun u1r =>
  (m_Directory_indexOfSerial a_serialFound a_held_serials a_held_size).bind fun u2 =>
  if u2 = (-1) then some (.inr (0))
  else (m_Directory_nameAt u2 a_held_names).bind fun u3 =>
  (m_Row_wordOf u3).bind fun u4 =>
  some (.inr (u4))

def m_L_count (a_held_size : Int32) (a_power_supplied : Int32) : Option (String ⊕ (Int32)) :=
  thr (m_L_requirePower a_power_supplied) fun u1r =>
  (m_Directory_entries a_held_size).bind fun u2 =>
  some (.inr (u2))

def m_L_free (a_held_nameRows_rows : Nat → Int64) (a_held_nameRows_size : Int32) (a_held_serialRows_rows : Nat → Int64) (a_held_serialRows_size : Int32) (a_power_supplied : Int32) : Option (String ⊕ (Int32)) :=
  thr (m_L_requirePower a_power_supplied) fun u1r =>
  (m_Directory_freePages a_held_nameRows_rows a_held_nameRows_size a_held_serialRows_rows a_held_serialRows_size).bind fun u2 =>
  some (.inr (u2))

def m_L_writes (a_latestWrites : Int32) : Option (Int32) :=
  some (a_latestWrites)

def m_L_failAfter (x0 : Int32) : Option (String ⊕ (Int32)) :=
  if ((-1) : Int32) ≤ x0 then (m_Power_allow x0).bind fun u1 =>
  some (.inr (u1))
  else some (.inl "java/lang/IllegalArgumentException")

def m_L_start (a_power_supplied : Int32) (a_power_writesLeft : Int32) (a_serialFound : Int32) : Option (Int32 × Int32 × Int32 × Int32) :=
  (m_Power_isSupplied a_power_supplied).bind fun u1 =>
  if u1 = 0 then (m_Power_restore).bind fun u2 =>
  some (1, u2.1, u2.2, (-1))
  else some (0, a_power_supplied, a_power_writesLeft, a_serialFound)

def m_L_isOn (a_power_supplied : Int32) : Option (Int32) :=
  (m_Power_isSupplied a_power_supplied).bind fun u1 =>
  some (u1)

def m_M_thrown (a_thrown : Int32) : Option (Int32) :=
  some (a_thrown)

def m_M_firstOf (x0 : Int64) (x1 : Int32) : Option (Int64) :=
  some ((x0 &&& ((1 <<< (((8 * x1) : Int32).toInt64 &&& 63)) - 1)))

def m_M_name_l23 (l1 : Int64) (l3 : Int32) : Nat → Int32 → Int32 → Option (Int32 × Int32)
  | 0, _, _ => none
  | n + 1, l4, a_thrown =>
    if l3 ≤ l4 then some (l4, a_thrown)
  else if a_thrown = 0 then if lg_cmp (((l1 >>> (((8 * l4) : Int32).toInt64 &&& 63)) &&& 255)) 0 = 0 then m_M_name_l23 l1 l3 n ((l4 + 1)) 1
  else if lg_cmp (((l1 >>> (((8 * l4) : Int32).toInt64 &&& 63)) &&& 255)) 47 = 0 then m_M_name_l23 l1 l3 n ((l4 + 1)) 1
  else m_M_name_l23 l1 l3 n ((l4 + 1)) 0
  else some (l4, a_thrown)
def m_M_name (x0 : Int64) (x1 : Int32) (a_hand : Int64) (a_handLength : Int32) : Option (Int32 × Int64 × Int32) :=
  if x1 < 1 then (m_M_name_l23 x0 x1 100 0 1).bind fun u1 =>
  if u1.2 = 0 then (m_M_firstOf x0 x1).bind fun u2 =>
  some (u1.2, u2, x1)
  else some (u1.2, a_hand, a_handLength)
  else if x1 ≤ 7 then (m_M_name_l23 x0 x1 100 0 0).bind fun u3 =>
  if u3.2 = 0 then (m_M_firstOf x0 x1).bind fun u4 =>
  some (u3.2, u4, x1)
  else some (u3.2, a_hand, a_handLength)
  else (m_M_name_l23 x0 x1 100 0 1).bind fun u5 =>
  if u5.2 = 0 then (m_M_firstOf x0 x1).bind fun u6 =>
  some (u5.2, u6, x1)
  else some (u5.2, a_hand, a_handLength)

def m_M_begins (x0 : Int64) (x1 : Int32) (x2 : Int64) (x3 : Int32) : Option (Int32) :=
  if x3 < x1 then some (0)
  else (m_M_firstOf x2 x1).bind fun u1 =>
  if lg_cmp x0 u1 = 0 then some (1)
  else some (0)

def m_M_common_l3 (l0 : Int64) (l2 : Int32) (l3 : Int64) (l5 : Int32) : Nat → Int32 → Option (Int32)
  | 0, _ => none
  | n + 1, l6 =>
    if l2 ≤ l6 then some (l6)
  else if l5 ≤ l6 then some (l6)
  else if lg_cmp (((l0 >>> (((8 * l6) : Int32).toInt64 &&& 63)) &&& 255)) (((l3 >>> (((8 * l6) : Int32).toInt64 &&& 63)) &&& 255)) = 0 then m_M_common_l3 l0 l2 l3 l5 n ((l6 + 1))
  else some (l6)
def m_M_common (x0 : Int64) (x1 : Int32) (x2 : Int64) (x3 : Int32) : Option (Int32) :=
  (m_M_common_l3 x0 x1 x2 x3 100 0).bind fun u1 =>
  some (u1)

def m_M_isBefore (x0 : Int64) (x1 : Int32) (x2 : Int64) (x3 : Int32) : Option (Int32) :=
  (m_M_common x0 x1 x2 x3).bind fun u1 =>
  if u1 = x1 then if x3 ≤ x1 then some (0)
  else some (1)
  else if x3 ≤ u1 then some (0)
  else if (0 : Int32) ≤ lg_cmp (((x0 >>> (((8 * u1) : Int32).toInt64 &&& 63)) &&& 255)) (((x2 >>> (((8 * u1) : Int32).toInt64 &&& 63)) &&& 255)) then some (0)
  else some (1)

def m_M_row (x0 : Int64) (x1 : Int32) (a_rows : Int32) (a_rowBytes : Nat → Int64) (a_rowLengths : Nat → Int32) : Option (Int32 × (Nat → Int64) × (Nat → Int32)) :=
  if a_rows < 0 ∨ 25 ≤ a_rows.toNatClampNeg then none
  else if a_rows < 0 ∨ 25 ≤ a_rows.toNatClampNeg then none
  else some ((a_rows + 1), (vp_updL a_rowBytes a_rows.toNatClampNeg x0), (upd a_rowLengths a_rows.toNatClampNeg x1))

def m_M_lay_l3 (l1 : Int64) (l3 : Int32) (a_placeBytes : Nat → Int64) (a_placeLengths : Nat → Int32) (a_places : Int32) : Nat → Int32 → Option (Int32 × (Nat → Int64) × (Nat → Int32))
  | 0, _ => none
  | n + 1, l4 =>
    if a_places ≤ l4 then if a_places < 0 ∨ 64 ≤ a_places.toNatClampNeg then none
  else if a_places < 0 ∨ 64 ≤ a_places.toNatClampNeg then none
  else some ((a_places + 1), (vp_updL a_placeBytes a_places.toNatClampNeg l1), (upd a_placeLengths a_places.toNatClampNeg l3))
  else if l4 < 0 ∨ 64 ≤ l4.toNatClampNeg then none
  else if lg_cmp ((a_placeBytes l4.toNatClampNeg)) l1 = 0 then if l4 < 0 ∨ 64 ≤ l4.toNatClampNeg then none
  else if (a_placeLengths l4.toNatClampNeg) = l3 then some (a_places, a_placeBytes, a_placeLengths)
  else m_M_lay_l3 l1 l3 a_placeBytes a_placeLengths a_places n ((l4 + 1))
  else m_M_lay_l3 l1 l3 a_placeBytes a_placeLengths a_places n ((l4 + 1))
def m_M_lay (x0 : Int64) (x1 : Int32) (a_places : Int32) (a_placeBytes : Nat → Int64) (a_placeLengths : Nat → Int32) : Option (Int32 × (Nat → Int64) × (Nat → Int32)) :=
  m_M_lay_l3 x0 x1 a_placeBytes a_placeLengths a_places 100 0

def m_M_layPlaces_l39 (l1 : Int32) (a_rowBytes : Nat → Int64) (a_rowLengths : Nat → Int32) : Nat → Int32 → (Nat → Int64) → (Nat → Int32) → Int32 → Option (Int32 × (Nat → Int64) × (Nat → Int32) × Int32)
  | 0, _, _, _, _ => none
  | n + 1, l2, a_placeBytes, a_placeLengths, a_places =>
    if l1 ≤ l2 then some (l2, a_placeBytes, a_placeLengths, a_places)
  else if l1 < 0 ∨ 25 ≤ l1.toNatClampNeg then none
  else if l1 < 0 ∨ 25 ≤ l1.toNatClampNeg then none
  else if l2 < 0 ∨ 25 ≤ l2.toNatClampNeg then none
  else if l2 < 0 ∨ 25 ≤ l2.toNatClampNeg then none
  else (m_M_common ((a_rowBytes l1.toNatClampNeg)) ((a_rowLengths l1.toNatClampNeg)) ((a_rowBytes l2.toNatClampNeg)) ((a_rowLengths l2.toNatClampNeg))).bind fun u9 =>
  if l1 < 0 ∨ 25 ≤ l1.toNatClampNeg then none
  else (m_M_firstOf ((a_rowBytes l1.toNatClampNeg)) u9).bind fun u10 =>
  (m_M_lay u10 u9 a_places a_placeBytes a_placeLengths).bind fun u11 =>
  m_M_layPlaces_l39 l1 a_rowBytes a_rowLengths n ((l2 + 1)) u11.2.1 u11.2.2 u11.1
def m_M_layPlaces_l13 (a_rowBytes : Nat → Int64) (a_rowLengths : Nat → Int32) (a_rows : Int32) : Nat → Int32 → (Nat → Int64) → (Nat → Int32) → Int32 → Option (Int32 × (Nat → Int64) × (Nat → Int32) × Int32)
  | 0, _, _, _, _ => none
  | n + 1, l1, a_placeBytes, a_placeLengths, a_places =>
    if a_rows ≤ l1 then some (l1, a_placeBytes, a_placeLengths, a_places)
  else if l1 < 0 ∨ 25 ≤ l1.toNatClampNeg then none
  else if l1 < 0 ∨ 25 ≤ l1.toNatClampNeg then none
  else (m_M_lay ((a_rowBytes l1.toNatClampNeg)) ((a_rowLengths l1.toNatClampNeg)) a_places a_placeBytes a_placeLengths).bind fun u15 =>
  (m_M_layPlaces_l39 l1 a_rowBytes a_rowLengths 100 0 u15.2.1 u15.2.2 u15.1).bind fun u16 =>
  m_M_layPlaces_l13 a_rowBytes a_rowLengths a_rows n ((l1 + 1)) u16.2.1 u16.2.2.1 u16.2.2.2
def m_M_layPlaces (a_rows : Int32) (a_rowBytes : Nat → Int64) (a_rowLengths : Nat → Int32) (a_placeBytes : Nat → Int64) (a_placeLengths : Nat → Int32) : Option (Int32 × (Nat → Int64) × (Nat → Int32)) :=
  (m_M_lay 0 0 0 a_placeBytes a_placeLengths).bind fun u1 =>
  (m_M_layPlaces_l13 a_rowBytes a_rowLengths a_rows 100 0 u1.2.1 u1.2.2 u1.1).bind fun u17 =>
  some (u17.2.2.2, u17.2.1, u17.2.2.1)

def m_M_beginnings_l6 (l1 : Int64) (l3 : Int32) (l4 : Int64) (l6 : Int32) (a_placeBytes : Nat → Int64) (a_placeLengths : Nat → Int32) (a_places : Int32) : Nat → Int32 → Int32 → Option (Int32 × Int32)
  | 0, _, _ => none
  | n + 1, l7, l8 =>
    if a_places ≤ l8 then some (l7, l8)
  else if l8 < 0 ∨ 64 ≤ l8.toNatClampNeg then none
  else if l8 < 0 ∨ 64 ≤ l8.toNatClampNeg then none
  else (m_M_begins ((a_placeBytes l8.toNatClampNeg)) ((a_placeLengths l8.toNatClampNeg)) l1 l3).bind fun u5 =>
  if u5 = 0 then if l8 < 0 ∨ 64 ≤ l8.toNatClampNeg then none
  else if l8 < 0 ∨ 64 ≤ l8.toNatClampNeg then none
  else (m_M_begins ((a_placeBytes l8.toNatClampNeg)) ((a_placeLengths l8.toNatClampNeg)) l4 l6).bind fun u6 =>
  if u6 = 0 then if (0 : Int32) = 0 then m_M_beginnings_l6 l1 l3 l4 l6 a_placeBytes a_placeLengths a_places n l7 ((l8 + 1))
  else m_M_beginnings_l6 l1 l3 l4 l6 a_placeBytes a_placeLengths a_places n ((l7 + 1)) ((l8 + 1))
  else if (1 : Int32) = 0 then m_M_beginnings_l6 l1 l3 l4 l6 a_placeBytes a_placeLengths a_places n l7 ((l8 + 1))
  else m_M_beginnings_l6 l1 l3 l4 l6 a_placeBytes a_placeLengths a_places n ((l7 + 1)) ((l8 + 1))
  else if (1 : Int32) = 0 then m_M_beginnings_l6 l1 l3 l4 l6 a_placeBytes a_placeLengths a_places n l7 ((l8 + 1))
  else m_M_beginnings_l6 l1 l3 l4 l6 a_placeBytes a_placeLengths a_places n ((l7 + 1)) ((l8 + 1))
def m_M_beginnings (x0 : Int64) (x1 : Int32) (x2 : Int64) (x3 : Int32) (a_places : Int32) (a_placeBytes : Nat → Int64) (a_placeLengths : Nat → Int32) : Option (Int32) :=
  (m_M_beginnings_l6 x0 x1 x2 x3 a_placeBytes a_placeLengths a_places 100 0 0).bind fun u7 =>
  some (u7.1)

def m_M_rowOf (x0 : Int32) : Option (Int64) :=
  some ((((x0 / 256) : Int32).toInt64 ||| (((x0 - x0 / 256 * 256) : Int32).toInt64 <<< ((8 : Int32).toInt64 &&& 63))))

def m_M_layNames_l7 (l1 : Int32) (a_names : Nat → Int64) (a_lengths : Nat → Int32) (a_count : Int32) : Nat → Int32 → (Nat → Int64) → (Nat → Int32) → Int32 → Option (Int32 × (Nat → Int64) × (Nat → Int32) × Int32)
  | 0, _, _, _, _ => none
  | n + 1, l2, a_rowBytes, a_rowLengths, a_rows =>
    if a_count ≤ l2 then some (l2, a_rowBytes, a_rowLengths, a_rows)
  else if l2 = l1 then m_M_layNames_l7 l1 a_names a_lengths a_count n ((l2 + 1)) a_rowBytes a_rowLengths a_rows
  else if l2 < 0 ∨ 24 ≤ l2.toNatClampNeg then none
  else if l2 < 0 ∨ 24 ≤ l2.toNatClampNeg then none
  else (m_M_row ((a_names l2.toNatClampNeg)) ((a_lengths l2.toNatClampNeg)) a_rows a_rowBytes a_rowLengths).bind fun u3 =>
  m_M_layNames_l7 l1 a_names a_lengths a_count n ((l2 + 1)) u3.2.1 u3.2.2 u3.1
def m_M_layNames (x0 : Int32) (a_count : Int32) (a_names : Nat → Int64) (a_lengths : Nat → Int32) (a_rowBytes : Nat → Int64) (a_rowLengths : Nat → Int32) : Option (Int32 × (Nat → Int64) × (Nat → Int32)) :=
  (m_M_layNames_l7 x0 a_names a_lengths a_count 100 0 a_rowBytes a_rowLengths 0).bind fun u4 =>
  some (u4.2.2.2, u4.2.1, u4.2.2.1)

def m_M_laySerials_l7 (l1 : Int32) (a_serials : Nat → Int32) (a_count : Int32) : Nat → Int32 → (Nat → Int64) → (Nat → Int32) → Int32 → Option (Int32 × (Nat → Int64) × (Nat → Int32) × Int32)
  | 0, _, _, _, _ => none
  | n + 1, l2, a_rowBytes, a_rowLengths, a_rows =>
    if a_count ≤ l2 then some (l2, a_rowBytes, a_rowLengths, a_rows)
  else if l2 = l1 then m_M_laySerials_l7 l1 a_serials a_count n ((l2 + 1)) a_rowBytes a_rowLengths a_rows
  else if l2 < 0 ∨ 24 ≤ l2.toNatClampNeg then none
  else (m_M_rowOf ((a_serials l2.toNatClampNeg))).bind fun u5 =>
  (m_M_row u5 2 a_rows a_rowBytes a_rowLengths).bind fun u6 =>
  m_M_laySerials_l7 l1 a_serials a_count n ((l2 + 1)) u6.2.1 u6.2.2 u6.1
def m_M_laySerials (x0 : Int32) (a_count : Int32) (a_serials : Nat → Int32) (a_rowBytes : Nat → Int64) (a_rowLengths : Nat → Int32) : Option (Int32 × (Nat → Int64) × (Nat → Int32)) :=
  (m_M_laySerials_l7 x0 a_serials a_count 100 0 a_rowBytes a_rowLengths 0).bind fun u7 =>
  some (u7.2.2.2, u7.2.1, u7.2.2.1)

def m_M_freePages (a_count : Int32) (a_names : Nat → Int64) (a_lengths : Nat → Int32) (a_serials : Nat → Int32) (a_rowBytes : Nat → Int64) (a_rowLengths : Nat → Int32) (a_placeBytes : Nat → Int64) (a_placeLengths : Nat → Int32) : Option (Int32 × Int32 × (Nat → Int64) × (Nat → Int32) × Int32 × (Nat → Int64) × (Nat → Int32)) :=
  (m_M_layNames ((-1)) a_count a_names a_lengths a_rowBytes a_rowLengths).bind fun u1 =>
  (m_M_layPlaces u1.1 u1.2.1 u1.2.2 a_placeBytes a_placeLengths).bind fun u2 =>
  (m_M_laySerials ((-1)) a_count a_serials u1.2.1 u1.2.2).bind fun u3 =>
  (m_M_layPlaces u3.1 u3.2.1 u3.2.2 u2.2.1 u2.2.2).bind fun u4 =>
  some (((60 - u2.1) - u4.1), u3.1, u3.2.1, u3.2.2, u4.1, u4.2.1, u4.2.2)

def m_M_entryWith_l3 (l1 : Int64) (l3 : Int32) (a_names : Nat → Int64) (a_lengths : Nat → Int32) (a_count : Int32) : Nat → Int32 → Option (Int32)
  | 0, _ => none
  | n + 1, l4 =>
    if a_count ≤ l4 then some ((-1))
  else if l4 < 0 ∨ 24 ≤ l4.toNatClampNeg then none
  else if lg_cmp ((a_names l4.toNatClampNeg)) l1 = 0 then if l4 < 0 ∨ 24 ≤ l4.toNatClampNeg then none
  else if (a_lengths l4.toNatClampNeg) = l3 then some (l4)
  else m_M_entryWith_l3 l1 l3 a_names a_lengths a_count n ((l4 + 1))
  else m_M_entryWith_l3 l1 l3 a_names a_lengths a_count n ((l4 + 1))
def m_M_entryWith (x0 : Int64) (x1 : Int32) (a_count : Int32) (a_names : Nat → Int64) (a_lengths : Nat → Int32) : Option (Int32) :=
  m_M_entryWith_l3 x0 x1 a_names a_lengths a_count 100 0

def m_M_entryOf_l2 (l1 : Int32) (a_serials : Nat → Int32) (a_count : Int32) : Nat → Int32 → Option (Int32)
  | 0, _ => none
  | n + 1, l2 =>
    if a_count ≤ l2 then some ((-1))
  else if l2 < 0 ∨ 24 ≤ l2.toNatClampNeg then none
  else if (a_serials l2.toNatClampNeg) = l1 then some (l2)
  else m_M_entryOf_l2 l1 a_serials a_count n ((l2 + 1))
def m_M_entryOf (x0 : Int32) (a_count : Int32) (a_serials : Nat → Int32) : Option (Int32) :=
  m_M_entryOf_l2 x0 a_serials a_count 100 0

def m_M_change (x0 : Int32) (a_count : Int32) (a_names : Nat → Int64) (a_lengths : Nat → Int32) (a_serials : Nat → Int32) (a_rowBytes : Nat → Int64) (a_rowLengths : Nat → Int32) (a_placeBytes : Nat → Int64) (a_placeLengths : Nat → Int32) (a_off : Int32) (a_left : Int32) (a_made : Int32) : Option (Int32 × Int32 × (Nat → Int64) × (Nat → Int32) × Int32 × (Nat → Int64) × (Nat → Int32) × Int32 × Int32 × Int32) :=
  (m_M_freePages a_count a_names a_lengths a_serials a_rowBytes a_rowLengths a_placeBytes a_placeLengths).bind fun u1 =>
  if x0 ≤ u1.1 then if a_left < 0 then if (0 : Int32) ≤ a_left then some (0, u1.2.1, u1.2.2.1, u1.2.2.2.1, u1.2.2.2.2.1, u1.2.2.2.2.2.1, u1.2.2.2.2.2.2, a_off, (a_left - (x0 + 1)), (x0 + 1))
  else some (0, u1.2.1, u1.2.2.1, u1.2.2.2.1, u1.2.2.2.2.1, u1.2.2.2.2.2.1, u1.2.2.2.2.2.2, a_off, (-1), (x0 + 1))
  else if (x0 + 1) ≤ a_left then if (0 : Int32) ≤ a_left then some (0, u1.2.1, u1.2.2.1, u1.2.2.2.1, u1.2.2.2.2.1, u1.2.2.2.2.2.1, u1.2.2.2.2.2.2, a_off, (a_left - (x0 + 1)), (x0 + 1))
  else some (0, u1.2.1, u1.2.2.1, u1.2.2.2.1, u1.2.2.2.2.1, u1.2.2.2.2.2.1, u1.2.2.2.2.2.2, a_off, (-1), (x0 + 1))
  else some ((-3), u1.2.1, u1.2.2.1, u1.2.2.2.1, u1.2.2.2.2.1, u1.2.2.2.2.2.1, u1.2.2.2.2.2.2, 1, a_left, a_left)
  else some ((-2), u1.2.1, u1.2.2.1, u1.2.2.2.1, u1.2.2.2.2.1, u1.2.2.2.2.2.1, u1.2.2.2.2.2.2, a_off, a_left, a_made)

def m_M_refused (x0 : Int32) (a_off : Int32) : Option (Int32 × Int32) :=
  if a_off = 0 then if x0 = 0 then if (0 : Int32) ≤ 0 then some (0, 0)
  else some (1, 0)
  else if (2 : Int32) ≤ 0 then some (0, 2)
  else some (1, 2)
  else if (1 : Int32) ≤ 0 then some (0, 1)
  else some (1, 1)

def m_M_add (x0 : Int32) (a_count : Int32) (a_names : Nat → Int64) (a_lengths : Nat → Int32) (a_serials : Nat → Int32) (a_targets : Nat → Int32) (a_latest : Int32) (a_hand : Int64) (a_handLength : Int32) (a_rows : Int32) (a_rowBytes : Nat → Int64) (a_rowLengths : Nat → Int32) (a_places : Int32) (a_placeBytes : Nat → Int64) (a_placeLengths : Nat → Int32) (a_off : Int32) (a_left : Int32) (a_made : Int32) : Option (Int32 × Int32 × Int32 × (Nat → Int64) × (Nat → Int32) × (Nat → Int32) × (Nat → Int32) × Int32 × Int32 × (Nat → Int64) × (Nat → Int32) × Int32 × (Nat → Int64) × (Nat → Int32) × Int32 × Int32 × Int32) :=
  (m_M_refused 0 a_off).bind fun u1 =>
  if u1.1 = 0 then (m_M_entryWith a_hand a_handLength a_count a_names a_lengths).bind fun u2 =>
  if u2 < 0 then if a_count = 24 then some ((-2), u1.2, a_count, a_names, a_lengths, a_serials, a_targets, a_latest, a_rows, a_rowBytes, a_rowLengths, a_places, a_placeBytes, a_placeLengths, a_off, a_left, a_made)
  else (m_M_layNames ((-1)) a_count a_names a_lengths a_rowBytes a_rowLengths).bind fun u3 =>
  (m_M_row a_hand a_handLength u3.1 u3.2.1 u3.2.2).bind fun u4 =>
  (m_M_layPlaces u4.1 u4.2.1 u4.2.2 a_placeBytes a_placeLengths).bind fun u5 =>
  (m_M_beginnings a_hand a_handLength a_hand a_handLength u5.1 u5.2.1 u5.2.2).bind fun u6 =>
  (m_M_laySerials ((-1)) a_count a_serials u4.2.1 u4.2.2).bind fun u7 =>
  (m_M_rowOf ((a_latest + 1))).bind fun u8 =>
  (m_M_row u8 2 u7.1 u7.2.1 u7.2.2).bind fun u9 =>
  (m_M_layPlaces u9.1 u9.2.1 u9.2.2 u5.2.1 u5.2.2).bind fun u10 =>
  (m_M_rowOf ((a_latest + 1))).bind fun u11 =>
  (m_M_rowOf ((a_latest + 1))).bind fun u12 =>
  (m_M_beginnings u11 2 u12 2 u10.1 u10.2.1 u10.2.2).bind fun u13 =>
  (m_M_change ((u6 + u13)) a_count a_names a_lengths a_serials u9.2.1 u9.2.2 u10.2.1 u10.2.2 a_off a_left a_made).bind fun u14 =>
  if (0 : Int32) ≤ u14.1 then if a_count < 0 ∨ 24 ≤ a_count.toNatClampNeg then none
  else if a_count < 0 ∨ 24 ≤ a_count.toNatClampNeg then none
  else if a_count < 0 ∨ 24 ≤ a_count.toNatClampNeg then none
  else if a_count < 0 ∨ 24 ≤ a_count.toNatClampNeg then none
  else some ((a_latest + 1), u1.2, (a_count + 1), (vp_updL a_names a_count.toNatClampNeg a_hand), (upd a_lengths a_count.toNatClampNeg a_handLength), (upd a_serials a_count.toNatClampNeg ((a_latest + 1))), (upd a_targets a_count.toNatClampNeg x0), (a_latest + 1), u14.2.1, u14.2.2.1, u14.2.2.2.1, u14.2.2.2.2.1, u14.2.2.2.2.2.1, u14.2.2.2.2.2.2.1, u14.2.2.2.2.2.2.2.1, u14.2.2.2.2.2.2.2.2.1, u14.2.2.2.2.2.2.2.2.2)
  else some (u14.1, u1.2, a_count, a_names, a_lengths, a_serials, a_targets, a_latest, u14.2.1, u14.2.2.1, u14.2.2.2.1, u14.2.2.2.2.1, u14.2.2.2.2.2.1, u14.2.2.2.2.2.2.1, u14.2.2.2.2.2.2.2.1, u14.2.2.2.2.2.2.2.2.1, u14.2.2.2.2.2.2.2.2.2)
  else some ((-1), u1.2, a_count, a_names, a_lengths, a_serials, a_targets, a_latest, a_rows, a_rowBytes, a_rowLengths, a_places, a_placeBytes, a_placeLengths, a_off, a_left, a_made)
  else some (0, u1.2, a_count, a_names, a_lengths, a_serials, a_targets, a_latest, a_rows, a_rowBytes, a_rowLengths, a_places, a_placeBytes, a_placeLengths, a_off, a_left, a_made)

def m_M_remove_l120 (a_count : Int32) : Nat → Int32 → (Nat → Int64) → (Nat → Int32) → (Nat → Int32) → (Nat → Int32) → Option (Int32 × (Nat → Int64) × (Nat → Int32) × (Nat → Int32) × (Nat → Int32))
  | 0, _, _, _, _, _ => none
  | n + 1, l5, a_names, a_lengths, a_serials, a_targets =>
    if a_count ≤ l5 then some (l5, a_names, a_lengths, a_serials, a_targets)
  else if ((l5 + 1) : Int32) < 0 ∨ 24 ≤ ((l5 + 1) : Int32).toNatClampNeg then none
  else if l5 < 0 ∨ 24 ≤ l5.toNatClampNeg then none
  else if ((l5 + 1) : Int32) < 0 ∨ 24 ≤ ((l5 + 1) : Int32).toNatClampNeg then none
  else if l5 < 0 ∨ 24 ≤ l5.toNatClampNeg then none
  else if ((l5 + 1) : Int32) < 0 ∨ 24 ≤ ((l5 + 1) : Int32).toNatClampNeg then none
  else if l5 < 0 ∨ 24 ≤ l5.toNatClampNeg then none
  else if ((l5 + 1) : Int32) < 0 ∨ 24 ≤ ((l5 + 1) : Int32).toNatClampNeg then none
  else if l5 < 0 ∨ 24 ≤ l5.toNatClampNeg then none
  else m_M_remove_l120 a_count n ((l5 + 1)) ((vp_updL a_names l5.toNatClampNeg ((a_names ((l5 + 1) : Int32).toNatClampNeg)))) ((upd a_lengths l5.toNatClampNeg ((a_lengths ((l5 + 1) : Int32).toNatClampNeg)))) ((upd a_serials l5.toNatClampNeg ((a_serials ((l5 + 1) : Int32).toNatClampNeg)))) ((upd a_targets l5.toNatClampNeg ((a_targets ((l5 + 1) : Int32).toNatClampNeg))))
def m_M_remove (a_count : Int32) (a_names : Nat → Int64) (a_lengths : Nat → Int32) (a_serials : Nat → Int32) (a_targets : Nat → Int32) (a_hand : Int64) (a_handLength : Int32) (a_rows : Int32) (a_rowBytes : Nat → Int64) (a_rowLengths : Nat → Int32) (a_places : Int32) (a_placeBytes : Nat → Int64) (a_placeLengths : Nat → Int32) (a_off : Int32) (a_left : Int32) (a_made : Int32) : Option (Int32 × Int32 × Int32 × (Nat → Int64) × (Nat → Int32) × (Nat → Int32) × (Nat → Int32) × Int32 × (Nat → Int64) × (Nat → Int32) × Int32 × (Nat → Int64) × (Nat → Int32) × Int32 × Int32 × Int32) :=
  (m_M_refused 0 a_off).bind fun u1 =>
  if u1.1 = 0 then (m_M_entryWith a_hand a_handLength a_count a_names a_lengths).bind fun u2 =>
  if (0 : Int32) ≤ u2 then if u2 < 0 ∨ 24 ≤ u2.toNatClampNeg then none
  else (m_M_layNames u2 a_count a_names a_lengths a_rowBytes a_rowLengths).bind fun u3 =>
  (m_M_layPlaces u3.1 u3.2.1 u3.2.2 a_placeBytes a_placeLengths).bind fun u4 =>
  (m_M_beginnings a_hand a_handLength a_hand a_handLength u4.1 u4.2.1 u4.2.2).bind fun u5 =>
  (m_M_laySerials u2 a_count a_serials u3.2.1 u3.2.2).bind fun u6 =>
  (m_M_layPlaces u6.1 u6.2.1 u6.2.2 u4.2.1 u4.2.2).bind fun u7 =>
  (m_M_rowOf ((a_serials u2.toNatClampNeg))).bind fun u8 =>
  (m_M_rowOf ((a_serials u2.toNatClampNeg))).bind fun u9 =>
  (m_M_beginnings u8 2 u9 2 u7.1 u7.2.1 u7.2.2).bind fun u10 =>
  (m_M_change ((u5 + u10)) a_count a_names a_lengths a_serials u6.2.1 u6.2.2 u7.2.1 u7.2.2 a_off a_left a_made).bind fun u11 =>
  if (0 : Int32) ≤ u11.1 then (m_M_remove_l120 ((a_count - 1)) 100 u2 a_names a_lengths a_serials a_targets).bind fun u12 =>
  some ((a_serials u2.toNatClampNeg), u1.2, (a_count - 1), u12.2.1, u12.2.2.1, u12.2.2.2.1, u12.2.2.2.2, u11.2.1, u11.2.2.1, u11.2.2.2.1, u11.2.2.2.2.1, u11.2.2.2.2.2.1, u11.2.2.2.2.2.2.1, u11.2.2.2.2.2.2.2.1, u11.2.2.2.2.2.2.2.2.1, u11.2.2.2.2.2.2.2.2.2)
  else some (u11.1, u1.2, a_count, a_names, a_lengths, a_serials, a_targets, u11.2.1, u11.2.2.1, u11.2.2.2.1, u11.2.2.2.2.1, u11.2.2.2.2.2.1, u11.2.2.2.2.2.2.1, u11.2.2.2.2.2.2.2.1, u11.2.2.2.2.2.2.2.2.1, u11.2.2.2.2.2.2.2.2.2)
  else some ((-1), u1.2, a_count, a_names, a_lengths, a_serials, a_targets, a_rows, a_rowBytes, a_rowLengths, a_places, a_placeBytes, a_placeLengths, a_off, a_left, a_made)
  else some (0, u1.2, a_count, a_names, a_lengths, a_serials, a_targets, a_rows, a_rowBytes, a_rowLengths, a_places, a_placeBytes, a_placeLengths, a_off, a_left, a_made)

def m_M_replace (x0 : Int32) (a_count : Int32) (a_names : Nat → Int64) (a_lengths : Nat → Int32) (a_serials : Nat → Int32) (a_targets : Nat → Int32) (a_hand : Int64) (a_handLength : Int32) (a_rows : Int32) (a_rowBytes : Nat → Int64) (a_rowLengths : Nat → Int32) (a_places : Int32) (a_placeBytes : Nat → Int64) (a_placeLengths : Nat → Int32) (a_off : Int32) (a_left : Int32) (a_made : Int32) : Option (Int32 × Int32 × (Nat → Int32) × Int32 × (Nat → Int64) × (Nat → Int32) × Int32 × (Nat → Int64) × (Nat → Int32) × Int32 × Int32 × Int32) :=
  (m_M_refused 0 a_off).bind fun u1 =>
  if u1.1 = 0 then (m_M_entryWith a_hand a_handLength a_count a_names a_lengths).bind fun u2 =>
  if (0 : Int32) ≤ u2 then (m_M_layNames ((-1)) a_count a_names a_lengths a_rowBytes a_rowLengths).bind fun u3 =>
  (m_M_layPlaces u3.1 u3.2.1 u3.2.2 a_placeBytes a_placeLengths).bind fun u4 =>
  (m_M_beginnings a_hand a_handLength a_hand a_handLength u4.1 u4.2.1 u4.2.2).bind fun u5 =>
  (m_M_change u5 a_count a_names a_lengths a_serials u3.2.1 u3.2.2 u4.2.1 u4.2.2 a_off a_left a_made).bind fun u6 =>
  if (0 : Int32) ≤ u6.1 then if u2 < 0 ∨ 24 ≤ u2.toNatClampNeg then none
  else if u2 < 0 ∨ 24 ≤ u2.toNatClampNeg then none
  else some ((a_serials u2.toNatClampNeg), u1.2, (upd a_targets u2.toNatClampNeg x0), u6.2.1, u6.2.2.1, u6.2.2.2.1, u6.2.2.2.2.1, u6.2.2.2.2.2.1, u6.2.2.2.2.2.2.1, u6.2.2.2.2.2.2.2.1, u6.2.2.2.2.2.2.2.2.1, u6.2.2.2.2.2.2.2.2.2)
  else some (u6.1, u1.2, a_targets, u6.2.1, u6.2.2.1, u6.2.2.2.1, u6.2.2.2.2.1, u6.2.2.2.2.2.1, u6.2.2.2.2.2.2.1, u6.2.2.2.2.2.2.2.1, u6.2.2.2.2.2.2.2.2.1, u6.2.2.2.2.2.2.2.2.2)
  else some ((-1), u1.2, a_targets, a_rows, a_rowBytes, a_rowLengths, a_places, a_placeBytes, a_placeLengths, a_off, a_left, a_made)
  else some (0, u1.2, a_targets, a_rows, a_rowBytes, a_rowLengths, a_places, a_placeBytes, a_placeLengths, a_off, a_left, a_made)

def m_M_rename (x0 : Int32) (a_count : Int32) (a_names : Nat → Int64) (a_lengths : Nat → Int32) (a_serials : Nat → Int32) (a_hand : Int64) (a_handLength : Int32) (a_rows : Int32) (a_rowBytes : Nat → Int64) (a_rowLengths : Nat → Int32) (a_places : Int32) (a_placeBytes : Nat → Int64) (a_placeLengths : Nat → Int32) (a_off : Int32) (a_left : Int32) (a_made : Int32) : Option (Int32 × Int32 × (Nat → Int64) × (Nat → Int32) × Int32 × (Nat → Int64) × (Nat → Int32) × Int32 × (Nat → Int64) × (Nat → Int32) × Int32 × Int32 × Int32) :=
  (m_M_entryOf x0 a_count a_serials).bind fun u1 =>
  if (0 : Int32) ≤ u1 then (m_M_refused 0 a_off).bind fun u2 =>
  if u2.1 = 0 then (m_M_entryWith a_hand a_handLength a_count a_names a_lengths).bind fun u3 =>
  if u3 < 0 then (m_M_layNames u1 a_count a_names a_lengths a_rowBytes a_rowLengths).bind fun u4 =>
  (m_M_row a_hand a_handLength u4.1 u4.2.1 u4.2.2).bind fun u5 =>
  (m_M_layPlaces u5.1 u5.2.1 u5.2.2 a_placeBytes a_placeLengths).bind fun u6 =>
  if u1 < 0 ∨ 24 ≤ u1.toNatClampNeg then none
  else if u1 < 0 ∨ 24 ≤ u1.toNatClampNeg then none
  else (m_M_beginnings a_hand a_handLength ((a_names u1.toNatClampNeg)) ((a_lengths u1.toNatClampNeg)) u6.1 u6.2.1 u6.2.2).bind fun u7 =>
  (m_M_laySerials ((-1)) a_count a_serials u5.2.1 u5.2.2).bind fun u8 =>
  (m_M_layPlaces u8.1 u8.2.1 u8.2.2 u6.2.1 u6.2.2).bind fun u9 =>
  (m_M_rowOf x0).bind fun u10 =>
  (m_M_rowOf x0).bind fun u11 =>
  (m_M_beginnings u10 2 u11 2 u9.1 u9.2.1 u9.2.2).bind fun u12 =>
  (m_M_change ((u7 + u12)) a_count a_names a_lengths a_serials u8.2.1 u8.2.2 u9.2.1 u9.2.2 a_off a_left a_made).bind fun u13 =>
  if (0 : Int32) ≤ u13.1 then if u1 < 0 ∨ 24 ≤ u1.toNatClampNeg then none
  else if u1 < 0 ∨ 24 ≤ u1.toNatClampNeg then none
  else some (x0, u2.2, (vp_updL a_names u1.toNatClampNeg a_hand), (upd a_lengths u1.toNatClampNeg a_handLength), u13.2.1, u13.2.2.1, u13.2.2.2.1, u13.2.2.2.2.1, u13.2.2.2.2.2.1, u13.2.2.2.2.2.2.1, u13.2.2.2.2.2.2.2.1, u13.2.2.2.2.2.2.2.2.1, u13.2.2.2.2.2.2.2.2.2)
  else some (u13.1, u2.2, a_names, a_lengths, u13.2.1, u13.2.2.1, u13.2.2.2.1, u13.2.2.2.2.1, u13.2.2.2.2.2.1, u13.2.2.2.2.2.2.1, u13.2.2.2.2.2.2.2.1, u13.2.2.2.2.2.2.2.2.1, u13.2.2.2.2.2.2.2.2.2)
  else some ((-1), u2.2, a_names, a_lengths, a_rows, a_rowBytes, a_rowLengths, a_places, a_placeBytes, a_placeLengths, a_off, a_left, a_made)
  else some (0, u2.2, a_names, a_lengths, a_rows, a_rowBytes, a_rowLengths, a_places, a_placeBytes, a_placeLengths, a_off, a_left, a_made)
  else (m_M_refused 1 a_off).bind fun u14 =>
  if u14.1 = 0 then (m_M_entryWith a_hand a_handLength a_count a_names a_lengths).bind fun u15 =>
  if u15 < 0 then (m_M_layNames u1 a_count a_names a_lengths a_rowBytes a_rowLengths).bind fun u16 =>
  (m_M_row a_hand a_handLength u16.1 u16.2.1 u16.2.2).bind fun u17 =>
  (m_M_layPlaces u17.1 u17.2.1 u17.2.2 a_placeBytes a_placeLengths).bind fun u18 =>
  if u1 < 0 ∨ 24 ≤ u1.toNatClampNeg then none
  else if u1 < 0 ∨ 24 ≤ u1.toNatClampNeg then none
  else (m_M_beginnings a_hand a_handLength ((a_names u1.toNatClampNeg)) ((a_lengths u1.toNatClampNeg)) u18.1 u18.2.1 u18.2.2).bind fun u19 =>
  (m_M_laySerials ((-1)) a_count a_serials u17.2.1 u17.2.2).bind fun u20 =>
  (m_M_layPlaces u20.1 u20.2.1 u20.2.2 u18.2.1 u18.2.2).bind fun u21 =>
  (m_M_rowOf x0).bind fun u22 =>
  (m_M_rowOf x0).bind fun u23 =>
  (m_M_beginnings u22 2 u23 2 u21.1 u21.2.1 u21.2.2).bind fun u24 =>
  (m_M_change ((u19 + u24)) a_count a_names a_lengths a_serials u20.2.1 u20.2.2 u21.2.1 u21.2.2 a_off a_left a_made).bind fun u25 =>
  if (0 : Int32) ≤ u25.1 then if u1 < 0 ∨ 24 ≤ u1.toNatClampNeg then none
  else if u1 < 0 ∨ 24 ≤ u1.toNatClampNeg then none
  else some (x0, u14.2, (vp_updL a_names u1.toNatClampNeg a_hand), (upd a_lengths u1.toNatClampNeg a_handLength), u25.2.1, u25.2.2.1, u25.2.2.2.1, u25.2.2.2.2.1, u25.2.2.2.2.2.1, u25.2.2.2.2.2.2.1, u25.2.2.2.2.2.2.2.1, u25.2.2.2.2.2.2.2.2.1, u25.2.2.2.2.2.2.2.2.2)
  else some (u25.1, u14.2, a_names, a_lengths, u25.2.1, u25.2.2.1, u25.2.2.2.1, u25.2.2.2.2.1, u25.2.2.2.2.2.1, u25.2.2.2.2.2.2.1, u25.2.2.2.2.2.2.2.1, u25.2.2.2.2.2.2.2.2.1, u25.2.2.2.2.2.2.2.2.2)
  else some ((-1), u14.2, a_names, a_lengths, a_rows, a_rowBytes, a_rowLengths, a_places, a_placeBytes, a_placeLengths, a_off, a_left, a_made)
  else some (0, u14.2, a_names, a_lengths, a_rows, a_rowBytes, a_rowLengths, a_places, a_placeBytes, a_placeLengths, a_off, a_left, a_made)

def m_M_find (a_count : Int32) (a_names : Nat → Int64) (a_lengths : Nat → Int32) (a_targets : Nat → Int32) (a_hand : Int64) (a_handLength : Int32) (a_off : Int32) : Option (Int32 × Int32) :=
  (m_M_entryWith a_hand a_handLength a_count a_names a_lengths).bind fun u1 =>
  if (0 : Int32) ≤ u1 then (m_M_refused 0 a_off).bind fun u2 =>
  if u2.1 = 0 then if u1 < 0 ∨ 24 ≤ u1.toNatClampNeg then none
  else some ((a_targets u1.toNatClampNeg), u2.2)
  else some (0, u2.2)
  else (m_M_refused 1 a_off).bind fun u3 =>
  if u3.1 = 0 then if u1 < 0 ∨ 24 ≤ u1.toNatClampNeg then none
  else some ((a_targets u1.toNatClampNeg), u3.2)
  else some (0, u3.2)

def m_M_serial (a_count : Int32) (a_names : Nat → Int64) (a_lengths : Nat → Int32) (a_serials : Nat → Int32) (a_hand : Int64) (a_handLength : Int32) (a_off : Int32) : Option (Int32 × Int32) :=
  (m_M_entryWith a_hand a_handLength a_count a_names a_lengths).bind fun u1 =>
  (m_M_refused 0 a_off).bind fun u2 =>
  if u2.1 = 0 then if (0 : Int32) ≤ u1 then if u1 < 0 ∨ 24 ≤ u1.toNatClampNeg then none
  else some ((a_serials u1.toNatClampNeg), u2.2)
  else some ((-1), u2.2)
  else some (0, u2.2)

def m_M_next_l14 (l1 : Int32) (a_serials : Nat → Int32) (a_count : Int32) : Nat → Int32 → Int32 → Option (Int32 × Int32)
  | 0, _, _ => none
  | n + 1, l2, l3 =>
    if a_count ≤ l3 then some (l2, l3)
  else if l3 < 0 ∨ 24 ≤ l3.toNatClampNeg then none
  else if (a_serials l3.toNatClampNeg) ≤ l1 then m_M_next_l14 l1 a_serials a_count n l2 ((l3 + 1))
  else if l2 < 0 then if l3 < 0 ∨ 24 ≤ l3.toNatClampNeg then none
  else m_M_next_l14 l1 a_serials a_count n ((a_serials l3.toNatClampNeg)) ((l3 + 1))
  else if l3 < 0 ∨ 24 ≤ l3.toNatClampNeg then none
  else if l2 ≤ (a_serials l3.toNatClampNeg) then m_M_next_l14 l1 a_serials a_count n l2 ((l3 + 1))
  else if l3 < 0 ∨ 24 ≤ l3.toNatClampNeg then none
  else m_M_next_l14 l1 a_serials a_count n ((a_serials l3.toNatClampNeg)) ((l3 + 1))
def m_M_next (x0 : Int32) (a_count : Int32) (a_serials : Nat → Int32) (a_foundSerial : Int32) (a_off : Int32) : Option (Int32 × Int32 × Int32) :=
  (m_M_refused 0 a_off).bind fun u1 =>
  if u1.1 = 0 then (m_M_next_l14 x0 a_serials a_count 100 ((-1)) 0).bind fun u2 =>
  if (0 : Int32) ≤ u2.1 then some (u2.1, u1.2, u2.1)
  else some (u2.1, u1.2, 0)
  else some (0, u1.2, a_foundSerial)

def m_M_before_l5 (l1 : Int32) (l2 : Int32) (a_names : Nat → Int64) (a_lengths : Nat → Int32) (a_count : Int32) (a_hand : Int64) : Nat → Int32 → Int32 → Option (Int32 × Int32)
  | 0, _, _ => none
  | n + 1, l3, l4 =>
    if a_count ≤ l4 then some (l3, l4)
  else (m_M_firstOf a_hand l2).bind fun u7 =>
  if l4 < 0 ∨ 24 ≤ l4.toNatClampNeg then none
  else if l4 < 0 ∨ 24 ≤ l4.toNatClampNeg then none
  else (m_M_begins u7 l2 ((a_names l4.toNatClampNeg)) ((a_lengths l4.toNatClampNeg))).bind fun u8 =>
  if u8 = 0 then m_M_before_l5 l1 l2 a_names a_lengths a_count a_hand n l3 ((l4 + 1))
  else if l4 < 0 ∨ 24 ≤ l4.toNatClampNeg then none
  else if l4 < 0 ∨ 24 ≤ l4.toNatClampNeg then none
  else if l1 < 0 ∨ 24 ≤ l1.toNatClampNeg then none
  else if l1 < 0 ∨ 24 ≤ l1.toNatClampNeg then none
  else (m_M_isBefore ((a_names l4.toNatClampNeg)) ((a_lengths l4.toNatClampNeg)) ((a_names l1.toNatClampNeg)) ((a_lengths l1.toNatClampNeg))).bind fun u9 =>
  if u9 = 0 then m_M_before_l5 l1 l2 a_names a_lengths a_count a_hand n l3 ((l4 + 1))
  else m_M_before_l5 l1 l2 a_names a_lengths a_count a_hand n ((l3 + 1)) ((l4 + 1))
def m_M_before (x0 : Int32) (x1 : Int32) (a_count : Int32) (a_names : Nat → Int64) (a_lengths : Nat → Int32) (a_hand : Int64) : Option (Int32) :=
  (m_M_before_l5 x0 x1 a_names a_lengths a_count a_hand 100 0 0).bind fun u10 =>
  some (u10.1)

def m_M_listed_l33 (l1 : Int32) (l2 : Int32) (a_names : Nat → Int64) (a_lengths : Nat → Int32) (a_serials : Nat → Int32) (a_count : Int32) (a_hand : Int64) : Nat → Int32 → Int32 → Option (Int32 × Int32)
  | 0, _, _ => none
  | n + 1, l3, a_foundSerial =>
    if a_count ≤ l3 then some (l3, a_foundSerial)
  else (m_M_firstOf a_hand l2).bind fun u8 =>
  if l3 < 0 ∨ 24 ≤ l3.toNatClampNeg then none
  else if l3 < 0 ∨ 24 ≤ l3.toNatClampNeg then none
  else (m_M_begins u8 l2 ((a_names l3.toNatClampNeg)) ((a_lengths l3.toNatClampNeg))).bind fun u9 =>
  if u9 = 0 then m_M_listed_l33 l1 l2 a_names a_lengths a_serials a_count a_hand n ((l3 + 1)) a_foundSerial
  else (m_M_before l3 l2 a_count a_names a_lengths a_hand).bind fun u10 =>
  if u10 = l1 then if l3 < 0 ∨ 24 ≤ l3.toNatClampNeg then none
  else m_M_listed_l33 l1 l2 a_names a_lengths a_serials a_count a_hand n ((l3 + 1)) ((a_serials l3.toNatClampNeg))
  else m_M_listed_l33 l1 l2 a_names a_lengths a_serials a_count a_hand n ((l3 + 1)) a_foundSerial
def m_M_listed (x0 : Int32) (x1 : Int32) (a_count : Int32) (a_names : Nat → Int64) (a_lengths : Nat → Int32) (a_serials : Nat → Int32) (a_hand : Int64) (a_handLength : Int32) (a_foundSerial : Int32) (a_off : Int32) : Option (Int32 × Int32 × Int32) :=
  if x1 < 0 then (m_M_refused 1 a_off).bind fun u1 =>
  if u1.1 = 0 then (m_M_listed_l33 x0 x1 a_names a_lengths a_serials a_count a_hand 100 0 0).bind fun u11 =>
  if u11.2 = 0 then some ((-1), u1.2, u11.2)
  else some (u11.2, u1.2, u11.2)
  else some (0, u1.2, a_foundSerial)
  else if x1 ≤ a_handLength then (m_M_refused 0 a_off).bind fun u12 =>
  if u12.1 = 0 then (m_M_listed_l33 x0 x1 a_names a_lengths a_serials a_count a_hand 100 0 0).bind fun u13 =>
  if u13.2 = 0 then some ((-1), u12.2, u13.2)
  else some (u13.2, u12.2, u13.2)
  else some (0, u12.2, a_foundSerial)
  else (m_M_refused 1 a_off).bind fun u14 =>
  if u14.1 = 0 then (m_M_listed_l33 x0 x1 a_names a_lengths a_serials a_count a_hand 100 0 0).bind fun u15 =>
  if u15.2 = 0 then some ((-1), u14.2, u15.2)
  else some (u15.2, u14.2, u15.2)
  else some (0, u14.2, a_foundSerial)

def m_M_rank_l14 (a_names : Nat → Int64) (a_lengths : Nat → Int32) (a_count : Int32) (a_hand : Int64) (a_handLength : Int32) : Nat → Int32 → Int32 → Option (Int32 × Int32)
  | 0, _, _ => none
  | n + 1, l1, l2 =>
    if a_count ≤ l2 then some (l1, l2)
  else if l2 < 0 ∨ 24 ≤ l2.toNatClampNeg then none
  else if l2 < 0 ∨ 24 ≤ l2.toNatClampNeg then none
  else (m_M_isBefore ((a_names l2.toNatClampNeg)) ((a_lengths l2.toNatClampNeg)) a_hand a_handLength).bind fun u4 =>
  if u4 = 0 then m_M_rank_l14 a_names a_lengths a_count a_hand a_handLength n l1 ((l2 + 1))
  else m_M_rank_l14 a_names a_lengths a_count a_hand a_handLength n ((l1 + 1)) ((l2 + 1))
def m_M_rank (a_count : Int32) (a_names : Nat → Int64) (a_lengths : Nat → Int32) (a_hand : Int64) (a_handLength : Int32) (a_off : Int32) : Option (Int32 × Int32) :=
  (m_M_refused 0 a_off).bind fun u1 =>
  if u1.1 = 0 then (m_M_rank_l14 a_names a_lengths a_count a_hand a_handLength 100 0 0).bind fun u5 =>
  some (u5.1, u1.2)
  else some (0, u1.2)

def m_M_found (a_count : Int32) (a_names : Nat → Int64) (a_serials : Nat → Int32) (a_foundSerial : Int32) (a_off : Int32) : Option (Int64 × Int32) :=
  if a_foundSerial = 0 then (m_M_refused 0 a_off).bind fun u3 =>
  if u3.1 = 0 then if (0 : Int32) ≤ ((-1) : Int32) then if ((-1) : Int32) < 0 ∨ 24 ≤ ((-1) : Int32).toNatClampNeg then none
  else some ((a_names ((-1) : Int32).toNatClampNeg), u3.2)
  else some (0, u3.2)
  else some (0, u3.2)
  else (m_M_entryOf a_foundSerial a_count a_serials).bind fun u1 =>
  (m_M_refused 0 a_off).bind fun u2 =>
  if u2.1 = 0 then if (0 : Int32) ≤ u1 then if u1 < 0 ∨ 24 ≤ u1.toNatClampNeg then none
  else some ((a_names u1.toNatClampNeg), u2.2)
  else some (0, u2.2)
  else some (0, u2.2)

def m_M_count (a_count : Int32) (a_off : Int32) : Option (Int32 × Int32) :=
  (m_M_refused 0 a_off).bind fun u1 =>
  if u1.1 = 0 then some (a_count, u1.2)
  else some (0, u1.2)

def m_M_free (a_count : Int32) (a_names : Nat → Int64) (a_lengths : Nat → Int32) (a_serials : Nat → Int32) (a_rows : Int32) (a_rowBytes : Nat → Int64) (a_rowLengths : Nat → Int32) (a_places : Int32) (a_placeBytes : Nat → Int64) (a_placeLengths : Nat → Int32) (a_off : Int32) : Option (Int32 × Int32 × Int32 × (Nat → Int64) × (Nat → Int32) × Int32 × (Nat → Int64) × (Nat → Int32)) :=
  (m_M_refused 0 a_off).bind fun u1 =>
  if u1.1 = 0 then (m_M_freePages a_count a_names a_lengths a_serials a_rowBytes a_rowLengths a_placeBytes a_placeLengths).bind fun u2 =>
  some (u2.1, u1.2, u2.2.1, u2.2.2.1, u2.2.2.2.1, u2.2.2.2.2.1, u2.2.2.2.2.2.1, u2.2.2.2.2.2.2)
  else some (0, u1.2, a_rows, a_rowBytes, a_rowLengths, a_places, a_placeBytes, a_placeLengths)

def m_M_writes (a_made : Int32) : Option (Int32 × Int32) :=
  some (a_made, 0)

def m_M_failAfter (x0 : Int32) (a_left : Int32) : Option (Int32 × Int32) :=
  if ((-1) : Int32) ≤ x0 then if (0 : Int32) = 0 then some (0, x0)
  else some (0, a_left)
  else if (1 : Int32) = 0 then some (1, x0)
  else some (1, a_left)

def m_M_start (a_foundSerial : Int32) (a_off : Int32) (a_left : Int32) : Option (Int32 × Int32 × Int32 × Int32 × Int32) :=
  if a_off = 0 then some (0, 0, a_foundSerial, a_off, a_left)
  else some (1, 0, 0, 0, (-1))

def m_M_isOn (a_off : Int32) : Option (Int32 × Int32) :=
  if a_off = 0 then some (1, 0)
  else some (0, 0)
