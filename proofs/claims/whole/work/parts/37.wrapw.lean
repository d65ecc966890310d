def WL : List Cond := [.codeWith zy_Law_name zc_Law_name 5 (some .int) [(0, 6, 9, 13)], .codeWith zy_Law_add zc_Law_add 4 (some .int) [(0, 9, 12, 19)], .codeWith zy_Law_remove zc_Law_remove 3 (some .int) [(0, 8, 11, 19)], .codeWith zy_Law_replace zc_Law_replace 4 (some .int) [(0, 9, 12, 19)], .codeWith zy_Law_rename zc_Law_rename 4 (some .int) [(0, 9, 12, 19), (0, 9, 15, 31)], .codeWith zy_Law_find zc_Law_find 3 (some .int) [(0, 8, 11, 19), (0, 8, 14, 31)], .codeWith zy_Law_serial zc_Law_serial 3 (some .int) [(0, 8, 11, 19)], .codeWith zy_Law_next zc_Law_next 4 (some .int) [(0, 9, 12, 19)], .codeWith zy_Law_listed zc_Law_listed 5 (some .int) [(0, 10, 13, 19), (0, 10, 17, 13)], .codeWith zy_Law_rank zc_Law_rank 3 (some .int) [(0, 8, 11, 19)], .codeWith zy_Law_found zc_Law_found 3 (some .int) [(0, 7, 10, 19)], .codeWith zy_Law_count zc_Law_count 3 (some .int) [(0, 8, 11, 19)], .codeWith zy_Law_free zc_Law_free 3 (some .int) [(0, 8, 11, 19)], .codeWith zy_Law_failAfter zc_Law_failAfter 3 (some .int) [(0, 5, 8, 13)], .classLink zR_Law 13 "java/lang/IllegalArgumentException", .classLink zR_Law 19 "java/lang/IllegalStateException", .classLink zR_Law 31 "java/util/NoSuchElementException"]
def WSl : List Cond := WL ++ WSg
theorem zlgood : ∀ w ∈ WL, goodWord w = true := List.all_eq_true.mp (by decide +kernel)
theorem zlL {w : Cond} (h : w ∈ WL) : w ∈ WSl := List.mem_append_left _ h
theorem zlg {w : Cond} (h : w ∈ WSg) : w ∈ WSl := List.mem_append_right _ h
theorem zlo {w : Cond} (h : w ∈ WSl) : w ∈ WSl ∧ ((w.onTables && w.keeps) = true ∨ ∃ ty, w = .arrayClass ty) := ⟨h, good_of_word ((List.mem_append.mp h).elim (zlgood w) (zgood w))⟩
abbrev zv_name : List Cond := .codeWith zy_Law_name zc_Law_name 5 (some .int) [(0, 6, 9, 13)] :: ([.classLink zR_Law 13 "java/lang/IllegalArgumentException", .classLink zR_Law 19 "java/lang/IllegalStateException", .classLink zR_Law 31 "java/util/NoSuchElementException"] ++ WSg)
theorem zvi_name : (.codeWith zy_Law_name zc_Law_name 5 (some .int) [(0, 6, 9, 13)] : Cond) ∈ WL := List.mem_of_getElem? (l := WL) (i := 0) rfl
abbrev zv_add : List Cond := .codeWith zy_Law_add zc_Law_add 4 (some .int) [(0, 9, 12, 19)] :: ([.classLink zR_Law 13 "java/lang/IllegalArgumentException", .classLink zR_Law 19 "java/lang/IllegalStateException", .classLink zR_Law 31 "java/util/NoSuchElementException"] ++ WSg)
theorem zvi_add : (.codeWith zy_Law_add zc_Law_add 4 (some .int) [(0, 9, 12, 19)] : Cond) ∈ WL := List.mem_of_getElem? (l := WL) (i := 1) rfl
abbrev zv_remove : List Cond := .codeWith zy_Law_remove zc_Law_remove 3 (some .int) [(0, 8, 11, 19)] :: ([.classLink zR_Law 13 "java/lang/IllegalArgumentException", .classLink zR_Law 19 "java/lang/IllegalStateException", .classLink zR_Law 31 "java/util/NoSuchElementException"] ++ WSg)
theorem zvi_remove : (.codeWith zy_Law_remove zc_Law_remove 3 (some .int) [(0, 8, 11, 19)] : Cond) ∈ WL := List.mem_of_getElem? (l := WL) (i := 2) rfl
abbrev zv_replace : List Cond := .codeWith zy_Law_replace zc_Law_replace 4 (some .int) [(0, 9, 12, 19)] :: ([.classLink zR_Law 13 "java/lang/IllegalArgumentException", .classLink zR_Law 19 "java/lang/IllegalStateException", .classLink zR_Law 31 "java/util/NoSuchElementException"] ++ WSg)
theorem zvi_replace : (.codeWith zy_Law_replace zc_Law_replace 4 (some .int) [(0, 9, 12, 19)] : Cond) ∈ WL := List.mem_of_getElem? (l := WL) (i := 3) rfl
abbrev zv_rename : List Cond := .codeWith zy_Law_rename zc_Law_rename 4 (some .int) [(0, 9, 12, 19), (0, 9, 15, 31)] :: ([.classLink zR_Law 13 "java/lang/IllegalArgumentException", .classLink zR_Law 19 "java/lang/IllegalStateException", .classLink zR_Law 31 "java/util/NoSuchElementException"] ++ WSg)
theorem zvi_rename : (.codeWith zy_Law_rename zc_Law_rename 4 (some .int) [(0, 9, 12, 19), (0, 9, 15, 31)] : Cond) ∈ WL := List.mem_of_getElem? (l := WL) (i := 4) rfl
abbrev zv_find : List Cond := .codeWith zy_Law_find zc_Law_find 3 (some .int) [(0, 8, 11, 19), (0, 8, 14, 31)] :: ([.classLink zR_Law 13 "java/lang/IllegalArgumentException", .classLink zR_Law 19 "java/lang/IllegalStateException", .classLink zR_Law 31 "java/util/NoSuchElementException"] ++ WSg)
theorem zvi_find : (.codeWith zy_Law_find zc_Law_find 3 (some .int) [(0, 8, 11, 19), (0, 8, 14, 31)] : Cond) ∈ WL := List.mem_of_getElem? (l := WL) (i := 5) rfl
abbrev zv_serial : List Cond := .codeWith zy_Law_serial zc_Law_serial 3 (some .int) [(0, 8, 11, 19)] :: ([.classLink zR_Law 13 "java/lang/IllegalArgumentException", .classLink zR_Law 19 "java/lang/IllegalStateException", .classLink zR_Law 31 "java/util/NoSuchElementException"] ++ WSg)
theorem zvi_serial : (.codeWith zy_Law_serial zc_Law_serial 3 (some .int) [(0, 8, 11, 19)] : Cond) ∈ WL := List.mem_of_getElem? (l := WL) (i := 6) rfl
abbrev zv_next : List Cond := .codeWith zy_Law_next zc_Law_next 4 (some .int) [(0, 9, 12, 19)] :: ([.classLink zR_Law 13 "java/lang/IllegalArgumentException", .classLink zR_Law 19 "java/lang/IllegalStateException", .classLink zR_Law 31 "java/util/NoSuchElementException"] ++ WSg)
theorem zvi_next : (.codeWith zy_Law_next zc_Law_next 4 (some .int) [(0, 9, 12, 19)] : Cond) ∈ WL := List.mem_of_getElem? (l := WL) (i := 7) rfl
abbrev zv_listed : List Cond := .codeWith zy_Law_listed zc_Law_listed 5 (some .int) [(0, 10, 13, 19), (0, 10, 17, 13)] :: ([.classLink zR_Law 13 "java/lang/IllegalArgumentException", .classLink zR_Law 19 "java/lang/IllegalStateException", .classLink zR_Law 31 "java/util/NoSuchElementException"] ++ WSg)
theorem zvi_listed : (.codeWith zy_Law_listed zc_Law_listed 5 (some .int) [(0, 10, 13, 19), (0, 10, 17, 13)] : Cond) ∈ WL := List.mem_of_getElem? (l := WL) (i := 8) rfl
abbrev zv_rank : List Cond := .codeWith zy_Law_rank zc_Law_rank 3 (some .int) [(0, 8, 11, 19)] :: ([.classLink zR_Law 13 "java/lang/IllegalArgumentException", .classLink zR_Law 19 "java/lang/IllegalStateException", .classLink zR_Law 31 "java/util/NoSuchElementException"] ++ WSg)
theorem zvi_rank : (.codeWith zy_Law_rank zc_Law_rank 3 (some .int) [(0, 8, 11, 19)] : Cond) ∈ WL := List.mem_of_getElem? (l := WL) (i := 9) rfl
abbrev zv_found : List Cond := .codeWith zy_Law_found zc_Law_found 3 (some .int) [(0, 7, 10, 19)] :: ([.classLink zR_Law 13 "java/lang/IllegalArgumentException", .classLink zR_Law 19 "java/lang/IllegalStateException", .classLink zR_Law 31 "java/util/NoSuchElementException"] ++ WSg)
theorem zvi_found : (.codeWith zy_Law_found zc_Law_found 3 (some .int) [(0, 7, 10, 19)] : Cond) ∈ WL := List.mem_of_getElem? (l := WL) (i := 10) rfl
abbrev zv_count : List Cond := .codeWith zy_Law_count zc_Law_count 3 (some .int) [(0, 8, 11, 19)] :: ([.classLink zR_Law 13 "java/lang/IllegalArgumentException", .classLink zR_Law 19 "java/lang/IllegalStateException", .classLink zR_Law 31 "java/util/NoSuchElementException"] ++ WSg)
theorem zvi_count : (.codeWith zy_Law_count zc_Law_count 3 (some .int) [(0, 8, 11, 19)] : Cond) ∈ WL := List.mem_of_getElem? (l := WL) (i := 11) rfl
abbrev zv_free : List Cond := .codeWith zy_Law_free zc_Law_free 3 (some .int) [(0, 8, 11, 19)] :: ([.classLink zR_Law 13 "java/lang/IllegalArgumentException", .classLink zR_Law 19 "java/lang/IllegalStateException", .classLink zR_Law 31 "java/util/NoSuchElementException"] ++ WSg)
theorem zvi_free : (.codeWith zy_Law_free zc_Law_free 3 (some .int) [(0, 8, 11, 19)] : Cond) ∈ WL := List.mem_of_getElem? (l := WL) (i := 12) rfl
abbrev zv_failAfter : List Cond := .codeWith zy_Law_failAfter zc_Law_failAfter 3 (some .int) [(0, 5, 8, 13)] :: ([.classLink zR_Law 13 "java/lang/IllegalArgumentException", .classLink zR_Law 19 "java/lang/IllegalStateException", .classLink zR_Law 31 "java/util/NoSuchElementException"] ++ WSg)
theorem zvi_failAfter : (.codeWith zy_Law_failAfter zc_Law_failAfter 3 (some .int) [(0, 5, 8, 13)] : Cond) ∈ WL := List.mem_of_getElem? (l := WL) (i := 13) rfl
theorem zvc0 : (.classLink zR_Law 13 "java/lang/IllegalArgumentException" : Cond) ∈ WL := List.mem_of_getElem? (l := WL) (i := 14) rfl
theorem zvc1 : (.classLink zR_Law 19 "java/lang/IllegalStateException" : Cond) ∈ WL := List.mem_of_getElem? (l := WL) (i := 15) rfl
theorem zvc2 : (.classLink zR_Law 31 "java/util/NoSuchElementException" : Cond) ∈ WL := List.mem_of_getElem? (l := WL) (i := 16) rfl
theorem zvcs : ∀ w ∈ ([.classLink zR_Law 13 "java/lang/IllegalArgumentException", .classLink zR_Law 19 "java/lang/IllegalStateException", .classLink zR_Law 31 "java/util/NoSuchElementException"] : List Cond), w ∈ WSl := by
  intro w hw
  simp only [List.mem_cons, List.not_mem_nil, or_false] at hw
  rcases hw with rfl | rfl | rfl
  · exact zlL zvc0
  · exact zlL zvc1
  · exact zlL zvc2
theorem zgW {own : String} {idx : Nat} {y : MethodName} {c : Cond} (h1 : Cond.methodLink own idx y ∈ WSg) (h2 : Cond.static y ∈ WSg) (h4 : Cond.initialized y.cls ∈ WSg) (h5 : c ∈ WL) : GoodIn WSl (va_wsS own idx y (c :: ([.classLink zR_Law 13 "java/lang/IllegalArgumentException", .classLink zR_Law 19 "java/lang/IllegalStateException", .classLink zR_Law 31 "java/util/NoSuchElementException"] ++ WSg))) := by
  intro w hw
  unfold va_wsS at hw
  rcases List.mem_append.mp hw with hw | hw
  · simp only [List.mem_cons, List.not_mem_nil, or_false] at hw
    rcases hw with rfl | rfl | rfl
    · exact zlo (zlg h1)
    · exact zlo (zlg h2)
    · exact zlo (zlg h4)
  · rcases List.mem_cons.mp hw with rfl | hw
    · exact zlo (zlL h5)
    · rcases List.mem_append.mp hw with hw | hw
      · exact zlo (zvcs w hw)
      · exact zlo (zlg hw)
def zC : List (String × String) := [("java/util/NoSuchElementException", "java/lang/IllegalStateException"), ("java/lang/IllegalArgumentException", "java/lang/IllegalStateException")]
def zY (A : Nat → Prop) (U : State) : Prop := zX A U ∧ va_Nc "java/util/NoSuchElementException" "java/lang/IllegalStateException" U ∧ va_Nc "java/lang/IllegalArgumentException" "java/lang/IllegalStateException" U
theorem zY_blind {A : Nat → Prop} {U : State} {g : JFrame} {mk : MethodId} {a : Array Value} (h : zY A U) : zY A (U.calling g mk a) := ⟨zX_blind h.1, va_Nc.moved (u := U) (U := U.calling g mk a) (Vm.Alike.refl U.vm) h.2.1, va_Nc.moved (u := U) (U := U.calling g mk a) (Vm.Alike.refl U.vm) h.2.2⟩
theorem zY_call {A B : Nat → Prop} {s U : State} {H : Heap} {locs : List Loc} (h : zY A s) (hS : va_S A s.heap H locs) (hAB : ∀ q, B q → A q) (hU : U.heap = H) (hW : s.WarmedH U.vm) : zY B U := ⟨zX_call h.1 hS hAB hU hW, va_Nc.moved hW.alike h.2.1, va_Nc.moved hW.alike h.2.2⟩
theorem zl_eq (o : Nat → Int64) (k : Nat) (x : Int64) : lg_cmp (vp_updL o k x k) x = 0 := by
  rw [pk_uLs]
  unfold lg_cmp
  rw [if_neg Int64.lt_irrefl, if_pos rfl]
theorem zin0 : vp_in (0 : Int32) 1 := vp_in_nI (n := 0) (N := 1) (by decide) (by decide)
