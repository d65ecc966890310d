def WS0 : List Cond := [.code zy_Dir_init zc_Dir_init 1 none, .methodLink zR_Dir 3 Lib.objectInit, .instanceMethod Lib.objectInit, .code Lib.objectInit ⟨#[0xb1]⟩ 1 none, .arrayClass .long, .fieldLink zR_Dir 9 zR_Dir "names" "[J", .arrayClass .int, .fieldLink zR_Dir 15 zR_Dir "serials" "[I", .fieldLink zR_Dir 19 zR_Dir "targets" "[I", .classLink zR_Dir 22 zR_Set, .instantiable zR_Set 2, .initialized zR_Set, .instanceMethod zy_Set_init, .fieldLink zR_Dir 25 zR_Dir "nameRows" "LListedNames$RowSet;", .fieldLink zR_Dir 29 zR_Dir "serialRows" "LListedNames$RowSet;", .fieldLink zR_Dir 32 zR_Dir "size" "I", .fieldLink zR_Dir 36 zR_Dir "latestSerial" "I", .code zy_Dir_copyFrom zc_Dir_copyFrom 2 none, .methodLink zR_Dir 39 arraycopyName, .native arraycopyName, .static arraycopyName, .initialized "java/lang/System", .methodLink zR_Dir 45 zy_Set_copyFrom, .instanceMethod zy_Set_copyFrom, .selects zR_Set zy_Set_copyFrom zy_Set_copyFrom]
def WS1 : List Cond := [.code zy_Dir_entries zc_Dir_entries 1 (some .int), .code zy_Dir_hasMostEntries zc_Dir_hasMostEntries 1 (some .boolean), .code zy_Dir_serialAt zc_Dir_serialAt 2 (some .int), .code zy_Dir_nameAt zc_Dir_nameAt 2 (some .long), .code zy_Dir_targetAt zc_Dir_targetAt 2 (some .int), .code zy_Dir_indexOfName zc_Dir_indexOfName 4 (some .int), .code zy_Dir_indexOfSerial zc_Dir_indexOfSerial 3 (some .int), .code zy_Dir_indexAbove zc_Dir_indexAbove 3 (some .int), .code zy_Dir_indexListed zc_Dir_indexListed 5 (some .int), .methodLink zR_Dir 49 zy_Row_beginning, .initialized zR_Row, .static zy_Row_beginning, .methodLink zR_Dir 55 zy_Set_rowWith, .instanceMethod zy_Set_rowWith, .selects zR_Set zy_Set_rowWith zy_Set_rowWith, .methodLink zR_Dir 59 zy_Dir_indexOfName, .initialized zR_Dir, .instanceMethod zy_Dir_indexOfName, .selects zR_Dir zy_Dir_indexOfName zy_Dir_indexOfName, .code zy_Dir_namesBefore zc_Dir_namesBefore 3 (some .int), .methodLink zR_Dir 63 zy_Set_rowsBefore, .instanceMethod zy_Set_rowsBefore, .selects zR_Set zy_Set_rowsBefore zy_Set_rowsBefore, .code zy_Dir_enter zc_Dir_enter 4 (some .int), .methodLink zR_Dir 66 zy_Dir_hasMostEntries]
def WS2 : List Cond := [.instanceMethod zy_Dir_hasMostEntries, .selects zR_Dir zy_Dir_hasMostEntries zy_Dir_hasMostEntries, .methodLink zR_Dir 70 zy_Set_insert, .instanceMethod zy_Set_insert, .selects zR_Set zy_Set_insert zy_Set_insert, .methodLink zR_Dir 74 zy_Row_ofSerial, .static zy_Row_ofSerial, .code zy_Dir_drop zc_Dir_drop 2 none, .methodLink zR_Dir 78 zy_Set_take, .instanceMethod zy_Set_take, .selects zR_Set zy_Set_take zy_Set_take, .code zy_Dir_giveTarget zc_Dir_giveTarget 3 none, .code zy_Dir_giveName zc_Dir_giveName 4 none, .code zy_Dir_freePages zc_Dir_freePages 1 (some .int), .methodLink zR_Dir 81 zy_Set_places, .instanceMethod zy_Set_places, .selects zR_Set zy_Set_places zy_Set_places, .code zy_Dir_pagesOfName zc_Dir_pagesOfName 3 (some .int), .methodLink zR_Dir 85 zy_Set_placesAlong, .instanceMethod zy_Set_placesAlong, .selects zR_Set zy_Set_placesAlong zy_Set_placesAlong, .code zy_Dir_pagesOfNames zc_Dir_pagesOfNames 6 (some .int), .methodLink zR_Dir 89 zy_Row_lengthInCommon, .static zy_Row_lengthInCommon, .code zy_Dir_pagesOfSerial zc_Dir_pagesOfSerial 2 (some .int)]
def WS3 : List Cond := [.code zy_Pow_init zc_Pow_init 1 none, .methodLink zR_Pow 3 Lib.objectInit, .fieldLink zR_Pow 9 zR_Pow "supplied" "Z", .fieldLink zR_Pow 15 zR_Pow "writesLeft" "I", .code zy_Pow_isSupplied zc_Pow_isSupplied 1 (some .boolean), .code zy_Pow_allow zc_Pow_allow 2 none, .code zy_Pow_restore zc_Pow_restore 1 none, .code zy_Pow_write zc_Pow_write 3 (some .int), .methodLink zR_Pow 19 Lib.Math.min.name, .static Lib.Math.min.name, .initialized "java/lang/Math", .code Lib.Math.min.name Lib.Math.min.code 2 (some .int), .code zy_Row_extended zc_Row_extended 4 (some .long), .code zy_Row_ofSerial zc_Row_ofSerial 1 (some .long), .methodLink zR_Row 11 zy_Row_extended, .static zy_Row_extended, .code zy_Row_beginning zc_Row_beginning 3 (some .long), .constantLong zR_Row 15 (-1), .code zy_Row_lengthOf zc_Row_lengthOf 3 (some .int), .methodLink zR_Row 17 zy_Row_digitAt, .static zy_Row_digitAt, .code zy_Row_lengthInCommon zc_Row_lengthInCommon 5 (some .int), .code zy_Row_wordOf zc_Row_wordOf 6 (some .long), .methodLink zR_Row 21 zy_Row_lengthOf, .static zy_Row_lengthOf]
def WS4 : List Cond := [.code zy_Row_digitAt zc_Row_digitAt 3 (some .int), .code zy_Set_init zc_Set_init 1 none, .methodLink zR_Set 3 Lib.objectInit, .fieldLink zR_Set 9 zR_Set "rows" "[J", .fieldLink zR_Set 15 zR_Set "size" "I", .code zy_Set_copyFrom zc_Set_copyFrom 2 none, .methodLink zR_Set 19 arraycopyName, .code zy_Set_insert zc_Set_insert 4 none, .methodLink zR_Set 25 zy_Set_rowsBefore, .code zy_Set_take zc_Set_take 4 none, .code zy_Set_rowsBefore zc_Set_rowsBefore 4 (some .int), .code zy_Set_rowWith zc_Set_rowWith 6 (some .long), .methodLink zR_Set 29 zy_Set_hasBeginning, .instanceMethod zy_Set_hasBeginning, .selects zR_Set zy_Set_hasBeginning zy_Set_hasBeginning, .code zy_Set_places zc_Set_places 6 (some .int), .methodLink zR_Set 35 zy_Row_lengthInCommon, .methodLink zR_Set 39 zy_Row_lengthOf, .methodLink zR_Set 42 zy_Set_isPlace, .instanceMethod zy_Set_isPlace, .selects zR_Set zy_Set_isPlace zy_Set_isPlace, .code zy_Set_placesAlong zc_Set_placesAlong 7 (some .int), .methodLink zR_Set 46 zy_Set_isPlaceAlong, .instanceMethod zy_Set_isPlaceAlong, .selects zR_Set zy_Set_isPlaceAlong zy_Set_isPlaceAlong]
def WS5 : List Cond := [.code zy_Set_isPlaceAlong zc_Set_isPlaceAlong 7 (some .boolean), .methodLink zR_Set 50 zy_Row_beginning, .code zy_Set_hasBeginning zc_Set_hasBeginning 5 (some .boolean), .code zy_Set_isPlace zc_Set_isPlace 6 (some .boolean), .code zy_Lst_init zc_Lst_init 1 none, .methodLink zR_Lst 1 Lib.objectInit, .classLink zR_Lst 7 zR_Dir, .instantiable zR_Dir 7, .instanceMethod zy_Dir_init, .fieldLink zR_Lst 10 zR_Lst "held" "LListedNames$Directory;", .fieldLink zR_Lst 16 zR_Lst "draft" "LListedNames$Directory;", .classLink zR_Lst 19 zR_Pow, .instantiable zR_Pow 2, .initialized zR_Pow, .instanceMethod zy_Pow_init, .fieldLink zR_Lst 22 zR_Lst "power" "LListedNames$Power;", .methodLink zR_Lst 28 zy_Row_extended, .fieldLink zR_Lst 32 zR_Lst "nameAtHand" "J", .fieldLink zR_Lst 36 zR_Lst "serialFound" "I", .fieldLink zR_Lst 40 zR_Lst "latestWrites" "I", .code zy_Lst_name zc_Lst_name 8 none, .classLink zR_Lst 43 "java/lang/IllegalArgumentException", .initialized "java/lang/IllegalArgumentException", .code zy_Lst_add zc_Lst_add 3 (some .int), .methodLink zR_Lst 46 zy_Lst_requirePower]
def WS6 : List Cond := [.initialized zR_Lst, .instanceMethod zy_Lst_requirePower, .selects zR_Lst zy_Lst_requirePower zy_Lst_requirePower, .methodLink zR_Lst 49 zy_Dir_indexOfName, .methodLink zR_Lst 53 zy_Dir_hasMostEntries, .methodLink zR_Lst 57 zy_Dir_copyFrom, .instanceMethod zy_Dir_copyFrom, .selects zR_Dir zy_Dir_copyFrom zy_Dir_copyFrom, .methodLink zR_Lst 61 zy_Dir_enter, .instanceMethod zy_Dir_enter, .selects zR_Dir zy_Dir_enter zy_Dir_enter, .methodLink zR_Lst 65 zy_Dir_pagesOfName, .instanceMethod zy_Dir_pagesOfName, .selects zR_Dir zy_Dir_pagesOfName zy_Dir_pagesOfName, .methodLink zR_Lst 68 zy_Dir_pagesOfSerial, .instanceMethod zy_Dir_pagesOfSerial, .selects zR_Dir zy_Dir_pagesOfSerial zy_Dir_pagesOfSerial, .methodLink zR_Lst 72 zy_Lst_carryOut, .instanceMethod zy_Lst_carryOut, .selects zR_Lst zy_Lst_carryOut zy_Lst_carryOut, .code zy_Lst_remove zc_Lst_remove 3 (some .int), .methodLink zR_Lst 76 zy_Dir_serialAt, .instanceMethod zy_Dir_serialAt, .selects zR_Dir zy_Dir_serialAt zy_Dir_serialAt, .methodLink zR_Lst 79 zy_Dir_drop]
def WS7 : List Cond := [.instanceMethod zy_Dir_drop, .selects zR_Dir zy_Dir_drop zy_Dir_drop, .code zy_Lst_replace zc_Lst_replace 3 (some .int), .methodLink zR_Lst 83 zy_Dir_giveTarget, .instanceMethod zy_Dir_giveTarget, .selects zR_Dir zy_Dir_giveTarget zy_Dir_giveTarget, .code zy_Lst_rename zc_Lst_rename 6 (some .int), .methodLink zR_Lst 87 zy_Dir_indexOfSerial, .instanceMethod zy_Dir_indexOfSerial, .selects zR_Dir zy_Dir_indexOfSerial zy_Dir_indexOfSerial, .classLink zR_Lst 90 "java/util/NoSuchElementException", .initialized "java/util/NoSuchElementException", .methodLink zR_Lst 93 zy_Dir_nameAt, .instanceMethod zy_Dir_nameAt, .selects zR_Dir zy_Dir_nameAt zy_Dir_nameAt, .methodLink zR_Lst 97 zy_Dir_giveName, .instanceMethod zy_Dir_giveName, .selects zR_Dir zy_Dir_giveName zy_Dir_giveName, .methodLink zR_Lst 101 zy_Dir_pagesOfNames, .instanceMethod zy_Dir_pagesOfNames, .selects zR_Dir zy_Dir_pagesOfNames zy_Dir_pagesOfNames, .code zy_Lst_find zc_Lst_find 2 (some .int), .methodLink zR_Lst 105 zy_Dir_targetAt, .instanceMethod zy_Dir_targetAt, .selects zR_Dir zy_Dir_targetAt zy_Dir_targetAt]
def WS8 : List Cond := [.code zy_Lst_serial zc_Lst_serial 1 (some .int), .methodLink zR_Lst 108 zy_Lst_serialAtOrNone, .instanceMethod zy_Lst_serialAtOrNone, .selects zR_Lst zy_Lst_serialAtOrNone zy_Lst_serialAtOrNone, .code zy_Lst_next zc_Lst_next 2 (some .int), .methodLink zR_Lst 111 zy_Dir_indexAbove, .instanceMethod zy_Dir_indexAbove, .selects zR_Dir zy_Dir_indexAbove zy_Dir_indexAbove, .code zy_Lst_listed zc_Lst_listed 3 (some .int), .methodLink zR_Lst 114 zy_Row_lengthOf, .methodLink zR_Lst 117 zy_Dir_indexListed, .instanceMethod zy_Dir_indexListed, .selects zR_Dir zy_Dir_indexListed zy_Dir_indexListed, .code zy_Lst_rank zc_Lst_rank 1 (some .int), .methodLink zR_Lst 121 zy_Dir_namesBefore, .instanceMethod zy_Dir_namesBefore, .selects zR_Dir zy_Dir_namesBefore zy_Dir_namesBefore, .code zy_Lst_found zc_Lst_found 2 (some .long), .methodLink zR_Lst 124 zy_Row_wordOf, .static zy_Row_wordOf, .code zy_Lst_count zc_Lst_count 1 (some .int), .methodLink zR_Lst 128 zy_Dir_entries, .instanceMethod zy_Dir_entries, .selects zR_Dir zy_Dir_entries zy_Dir_entries, .code zy_Lst_free zc_Lst_free 1 (some .int)]
def WS9 : List Cond := [.methodLink zR_Lst 132 zy_Dir_freePages, .instanceMethod zy_Dir_freePages, .selects zR_Dir zy_Dir_freePages zy_Dir_freePages, .code zy_Lst_writes zc_Lst_writes 1 (some .int), .code zy_Lst_failAfter zc_Lst_failAfter 2 none, .methodLink zR_Lst 135 zy_Pow_allow, .instanceMethod zy_Pow_allow, .selects zR_Pow zy_Pow_allow zy_Pow_allow, .code zy_Lst_start zc_Lst_start 1 (some .boolean), .methodLink zR_Lst 138 zy_Pow_isSupplied, .instanceMethod zy_Pow_isSupplied, .selects zR_Pow zy_Pow_isSupplied zy_Pow_isSupplied, .methodLink zR_Lst 141 zy_Pow_restore, .instanceMethod zy_Pow_restore, .selects zR_Pow zy_Pow_restore zy_Pow_restore, .code zy_Lst_isOn zc_Lst_isOn 1 (some .boolean), .code zy_Lst_requirePower zc_Lst_requirePower 1 none, .classLink zR_Lst 144 "java/lang/IllegalStateException", .initialized "java/lang/IllegalStateException", .code zy_Lst_serialAtOrNone zc_Lst_serialAtOrNone 2 (some .int), .code zy_Lst_carryOut zc_Lst_carryOut 4 (some .int), .methodLink zR_Lst 147 zy_Pow_write, .instanceMethod zy_Pow_write, .selects zR_Pow zy_Pow_write zy_Pow_write, .methodLink zR_Law 7 zy_Lst_name]
def WS10 : List Cond := [.instanceMethod zy_Lst_name, .selects zR_Lst zy_Lst_name zy_Lst_name, .methodLink zR_Law 15 zy_Lst_add, .instanceMethod zy_Lst_add, .selects zR_Lst zy_Lst_add zy_Lst_add, .methodLink zR_Law 21 zy_Lst_remove, .instanceMethod zy_Lst_remove, .selects zR_Lst zy_Lst_remove zy_Lst_remove, .methodLink zR_Law 25 zy_Lst_replace, .instanceMethod zy_Lst_replace, .selects zR_Lst zy_Lst_replace zy_Lst_replace, .methodLink zR_Law 28 zy_Lst_rename, .instanceMethod zy_Lst_rename, .selects zR_Lst zy_Lst_rename zy_Lst_rename, .methodLink zR_Law 33 zy_Lst_find, .instanceMethod zy_Lst_find, .selects zR_Lst zy_Lst_find zy_Lst_find, .methodLink zR_Law 36 zy_Lst_serial, .instanceMethod zy_Lst_serial, .selects zR_Lst zy_Lst_serial zy_Lst_serial, .methodLink zR_Law 39 zy_Lst_next, .instanceMethod zy_Lst_next, .selects zR_Lst zy_Lst_next zy_Lst_next, .methodLink zR_Law 42 zy_Lst_listed, .instanceMethod zy_Lst_listed]
def WS11 : List Cond := [.selects zR_Lst zy_Lst_listed zy_Lst_listed, .methodLink zR_Law 46 zy_Lst_rank, .instanceMethod zy_Lst_rank, .selects zR_Lst zy_Lst_rank zy_Lst_rank, .methodLink zR_Law 49 zy_Lst_found, .instanceMethod zy_Lst_found, .selects zR_Lst zy_Lst_found zy_Lst_found, .methodLink zR_Law 53 zy_Lst_count, .instanceMethod zy_Lst_count, .selects zR_Lst zy_Lst_count zy_Lst_count, .methodLink zR_Law 56 zy_Lst_free, .instanceMethod zy_Lst_free, .selects zR_Lst zy_Lst_free zy_Lst_free, .methodLink zR_Law 59 zy_Lst_failAfter, .instanceMethod zy_Lst_failAfter, .selects zR_Lst zy_Lst_failAfter zy_Lst_failAfter, .code zy_Law_law zc_Law_law 8 (some .boolean), .classLink zR_Law 8 zR_Lst, .instantiable zR_Lst 6, .methodLink zR_Law 63 zy_Lst_init, .instanceMethod zy_Lst_init, .classLink zR_Law 64 zR_Mod, .instantiable zR_Mod 19, .initialized zR_Mod, .methodLink zR_Law 66 zy_Mod_init]
def WS12 : List Cond := [.instanceMethod zy_Mod_init, .constantLong zR_Law 67 4294967295, .methodLink zR_Law 69 zy_Law_name, .initialized zR_Law, .static zy_Law_name, .methodLink zR_Law 74 zy_Mod_name, .instanceMethod zy_Mod_name, .selects zR_Mod zy_Mod_name zy_Mod_name, .methodLink zR_Law 75 zy_Mod_thrown, .instanceMethod zy_Mod_thrown, .selects zR_Mod zy_Mod_thrown zy_Mod_thrown, .methodLink zR_Law 78 zy_Law_add, .static zy_Law_add, .methodLink zR_Law 81 zy_Mod_add, .instanceMethod zy_Mod_add, .selects zR_Mod zy_Mod_add zy_Mod_add, .methodLink zR_Law 82 zy_Law_remove, .static zy_Law_remove, .methodLink zR_Law 85 zy_Mod_remove, .instanceMethod zy_Mod_remove, .selects zR_Mod zy_Mod_remove zy_Mod_remove, .methodLink zR_Law 86 zy_Law_replace, .static zy_Law_replace, .methodLink zR_Law 88 zy_Mod_replace, .instanceMethod zy_Mod_replace]
def WS13 : List Cond := [.selects zR_Mod zy_Mod_replace zy_Mod_replace, .methodLink zR_Law 89 zy_Law_rename, .static zy_Law_rename, .methodLink zR_Law 91 zy_Mod_rename, .instanceMethod zy_Mod_rename, .selects zR_Mod zy_Mod_rename zy_Mod_rename, .methodLink zR_Law 92 zy_Law_find, .static zy_Law_find, .methodLink zR_Law 94 zy_Mod_find, .instanceMethod zy_Mod_find, .selects zR_Mod zy_Mod_find zy_Mod_find, .methodLink zR_Law 95 zy_Law_serial, .static zy_Law_serial, .methodLink zR_Law 97 zy_Mod_serial, .instanceMethod zy_Mod_serial, .selects zR_Mod zy_Mod_serial zy_Mod_serial, .methodLink zR_Law 98 zy_Law_next, .static zy_Law_next, .methodLink zR_Law 100 zy_Mod_next, .instanceMethod zy_Mod_next, .selects zR_Mod zy_Mod_next zy_Mod_next, .methodLink zR_Law 101 zy_Law_listed, .static zy_Law_listed, .methodLink zR_Law 104 zy_Mod_listed, .instanceMethod zy_Mod_listed]
def WS14 : List Cond := [.selects zR_Mod zy_Mod_listed zy_Mod_listed, .methodLink zR_Law 105 zy_Law_rank, .static zy_Law_rank, .methodLink zR_Law 107 zy_Mod_rank, .instanceMethod zy_Mod_rank, .selects zR_Mod zy_Mod_rank zy_Mod_rank, .methodLink zR_Law 108 zy_Law_found, .static zy_Law_found, .methodLink zR_Law 110 zy_Mod_found, .instanceMethod zy_Mod_found, .selects zR_Mod zy_Mod_found zy_Mod_found, .methodLink zR_Law 111 zy_Law_count, .static zy_Law_count, .methodLink zR_Law 113 zy_Mod_count, .instanceMethod zy_Mod_count, .selects zR_Mod zy_Mod_count zy_Mod_count, .methodLink zR_Law 114 zy_Law_free, .static zy_Law_free, .methodLink zR_Law 116 zy_Mod_free, .instanceMethod zy_Mod_free, .selects zR_Mod zy_Mod_free zy_Mod_free, .methodLink zR_Law 117 zy_Lst_writes, .instanceMethod zy_Lst_writes, .selects zR_Lst zy_Lst_writes zy_Lst_writes, .methodLink zR_Law 120 zy_Mod_writes]
def WS15 : List Cond := [.instanceMethod zy_Mod_writes, .selects zR_Mod zy_Mod_writes zy_Mod_writes, .methodLink zR_Law 121 zy_Law_failAfter, .static zy_Law_failAfter, .methodLink zR_Law 124 zy_Mod_failAfter, .instanceMethod zy_Mod_failAfter, .selects zR_Mod zy_Mod_failAfter zy_Mod_failAfter, .methodLink zR_Law 125 zy_Lst_start, .instanceMethod zy_Lst_start, .selects zR_Lst zy_Lst_start zy_Lst_start, .methodLink zR_Law 129 zy_Mod_start, .instanceMethod zy_Mod_start, .selects zR_Mod zy_Mod_start zy_Mod_start, .methodLink zR_Law 130 zy_Lst_isOn, .instanceMethod zy_Lst_isOn, .selects zR_Lst zy_Lst_isOn zy_Lst_isOn, .methodLink zR_Law 133 zy_Mod_isOn, .instanceMethod zy_Mod_isOn, .selects zR_Mod zy_Mod_isOn zy_Mod_isOn, .code zy_Mod_init zc_Mod_init 1 none, .methodLink zR_Mod 1 Lib.objectInit, .fieldLink zR_Mod 7 zR_Mod "names" "[J", .fieldLink zR_Mod 13 zR_Mod "lengths" "[I", .fieldLink zR_Mod 17 zR_Mod "serials" "[I", .fieldLink zR_Mod 20 zR_Mod "targets" "[I"]
def WS16 : List Cond := [.constantLong zR_Mod 23 65, .fieldLink zR_Mod 25 zR_Mod "hand" "J", .fieldLink zR_Mod 29 zR_Mod "handLength" "I", .fieldLink zR_Mod 33 zR_Mod "rowBytes" "[J", .fieldLink zR_Mod 36 zR_Mod "rowLengths" "[I", .fieldLink zR_Mod 39 zR_Mod "placeBytes" "[J", .fieldLink zR_Mod 42 zR_Mod "placeLengths" "[I", .fieldLink zR_Mod 45 zR_Mod "left" "I", .fieldLink zR_Mod 48 zR_Mod "count" "I", .code zy_Mod_thrown zc_Mod_thrown 1 (some .int), .fieldLink zR_Mod 51 zR_Mod "thrown" "I", .code zy_Mod_name zc_Mod_name 7 none, .constantLong zR_Mod 54 255, .constantLong zR_Mod 56 47, .methodLink zR_Mod 58 zy_Mod_firstOf, .static zy_Mod_firstOf, .code zy_Mod_firstOf zc_Mod_firstOf 3 (some .long), .code zy_Mod_begins zc_Mod_begins 6 (some .boolean), .code zy_Mod_common zc_Mod_common 7 (some .int), .code zy_Mod_isBefore zc_Mod_isBefore 7 (some .boolean), .methodLink zR_Mod 62 zy_Mod_common, .static zy_Mod_common, .code zy_Mod_row zc_Mod_row 4 none, .fieldLink zR_Mod 66 zR_Mod "rows" "I", .code zy_Mod_lay zc_Mod_lay 5 none]
def WS17 : List Cond := [.fieldLink zR_Mod 69 zR_Mod "places" "I", .code zy_Mod_layPlaces zc_Mod_layPlaces 4 none, .methodLink zR_Mod 72 zy_Mod_lay, .instanceMethod zy_Mod_lay, .selects zR_Mod zy_Mod_lay zy_Mod_lay, .code zy_Mod_beginnings zc_Mod_beginnings 10 (some .int), .methodLink zR_Mod 76 zy_Mod_begins, .static zy_Mod_begins, .code zy_Mod_rowOf zc_Mod_rowOf 1 (some .long), .code zy_Mod_layNames zc_Mod_layNames 3 none, .methodLink zR_Mod 80 zy_Mod_row, .instanceMethod zy_Mod_row, .selects zR_Mod zy_Mod_row zy_Mod_row, .code zy_Mod_laySerials zc_Mod_laySerials 3 none, .methodLink zR_Mod 83 zy_Mod_rowOf, .static zy_Mod_rowOf, .code zy_Mod_freePages zc_Mod_freePages 2 (some .int), .methodLink zR_Mod 87 zy_Mod_layNames, .instanceMethod zy_Mod_layNames, .selects zR_Mod zy_Mod_layNames zy_Mod_layNames, .methodLink zR_Mod 91 zy_Mod_layPlaces, .instanceMethod zy_Mod_layPlaces, .selects zR_Mod zy_Mod_layPlaces zy_Mod_layPlaces, .methodLink zR_Mod 94 zy_Mod_laySerials, .instanceMethod zy_Mod_laySerials]
def WS18 : List Cond := [.selects zR_Mod zy_Mod_laySerials zy_Mod_laySerials, .code zy_Mod_entryWith zc_Mod_entryWith 5 (some .int), .code zy_Mod_entryOf zc_Mod_entryOf 3 (some .int), .code zy_Mod_change zc_Mod_change 3 (some .int), .methodLink zR_Mod 97 zy_Mod_freePages, .instanceMethod zy_Mod_freePages, .selects zR_Mod zy_Mod_freePages zy_Mod_freePages, .fieldLink zR_Mod 101 zR_Mod "made" "I", .fieldLink zR_Mod 104 zR_Mod "off" "Z", .code zy_Mod_refused zc_Mod_refused 2 (some .boolean), .code zy_Mod_add zc_Mod_add 5 (some .int), .methodLink zR_Mod 108 zy_Mod_refused, .instanceMethod zy_Mod_refused, .selects zR_Mod zy_Mod_refused zy_Mod_refused, .methodLink zR_Mod 112 zy_Mod_entryWith, .instanceMethod zy_Mod_entryWith, .selects zR_Mod zy_Mod_entryWith zy_Mod_entryWith, .fieldLink zR_Mod 116 zR_Mod "latest" "I", .methodLink zR_Mod 119 zy_Mod_beginnings, .instanceMethod zy_Mod_beginnings, .selects zR_Mod zy_Mod_beginnings zy_Mod_beginnings, .methodLink zR_Mod 122 zy_Mod_change, .instanceMethod zy_Mod_change, .selects zR_Mod zy_Mod_change zy_Mod_change, .code zy_Mod_remove zc_Mod_remove 6 (some .int)]
def WS19 : List Cond := [.code zy_Mod_replace zc_Mod_replace 4 (some .int), .code zy_Mod_rename zc_Mod_rename 5 (some .int), .methodLink zR_Mod 126 zy_Mod_entryOf, .instanceMethod zy_Mod_entryOf, .selects zR_Mod zy_Mod_entryOf zy_Mod_entryOf, .code zy_Mod_find zc_Mod_find 2 (some .int), .code zy_Mod_serial zc_Mod_serial 2 (some .int), .code zy_Mod_next zc_Mod_next 4 (some .int), .fieldLink zR_Mod 129 zR_Mod "foundSerial" "I", .code zy_Mod_before zc_Mod_before 6 (some .int), .methodLink zR_Mod 132 zy_Mod_isBefore, .static zy_Mod_isBefore, .code zy_Mod_listed zc_Mod_listed 4 (some .int), .methodLink zR_Mod 135 zy_Mod_before, .instanceMethod zy_Mod_before, .selects zR_Mod zy_Mod_before zy_Mod_before, .code zy_Mod_rank zc_Mod_rank 3 (some .int), .code zy_Mod_found zc_Mod_found 2 (some .long), .code zy_Mod_count zc_Mod_count 1 (some .int), .code zy_Mod_free zc_Mod_free 1 (some .int), .code zy_Mod_writes zc_Mod_writes 1 (some .int), .code zy_Mod_failAfter zc_Mod_failAfter 2 none, .code zy_Mod_start zc_Mod_start 1 (some .boolean), .code zy_Mod_isOn zc_Mod_isOn 1 (some .boolean)]
def WX0 : List Cond := (vx_at0 zR_Lst 45 "java/lang/IllegalArgumentException" ["java/lang/RuntimeException", "java/lang/Exception"]).filter goodWord
def WX1 : List Cond := (vx_at0 zR_Lst 92 "java/util/NoSuchElementException" ["java/lang/RuntimeException", "java/lang/Exception"]).filter goodWord
def WX2 : List Cond := (vx_at0 zR_Lst 146 "java/lang/IllegalStateException" ["java/lang/RuntimeException", "java/lang/Exception"]).filter goodWord
def WSg : List Cond := (u_ws zR_Dir zT_Dir 7 ++ (u_ws zR_Pow zT_Pow 2 ++ (u_ws zR_Set zT_Set 2 ++ (u_ws zR_Lst zT_Lst 6 ++ (u_ws zR_Mod zT_Mod 19 ++ (WS0 ++ (WS1 ++ (WS2 ++ (WS3 ++ (WS4 ++ (WS5 ++ (WS6 ++ (WS7 ++ (WS8 ++ (WS9 ++ (WS10 ++ (WS11 ++ (WS12 ++ (WS13 ++ (WS14 ++ (WS15 ++ (WS16 ++ (WS17 ++ (WS18 ++ (WS19 ++ (WX0 ++ (WX1 ++ (WX2 ++ ([] : List Cond)))))))))))))))))))))))))))))
theorem zu_Dir : ∀ w ∈ u_ws zR_Dir zT_Dir 7, w ∈ WSg := fun w h => List.mem_append_left _ h
theorem zu_Pow : ∀ w ∈ u_ws zR_Pow zT_Pow 2, w ∈ WSg := fun w h => List.mem_append_right _ (List.mem_append_left _ h)
theorem zu_Set : ∀ w ∈ u_ws zR_Set zT_Set 2, w ∈ WSg := fun w h => List.mem_append_right _ (List.mem_append_right _ (List.mem_append_left _ h))
theorem zu_Lst : ∀ w ∈ u_ws zR_Lst zT_Lst 6, w ∈ WSg := fun w h => List.mem_append_right _ (List.mem_append_right _ (List.mem_append_right _ (List.mem_append_left _ h)))
theorem zu_Mod : ∀ w ∈ u_ws zR_Mod zT_Mod 19, w ∈ WSg := fun w h => List.mem_append_right _ (List.mem_append_right _ (List.mem_append_right _ (List.mem_append_right _ (List.mem_append_left _ h))))
theorem zi5 : ∀ w ∈ WS0, w ∈ WSg := fun w h => List.mem_append_right _ (List.mem_append_right _ (List.mem_append_right _ (List.mem_append_right _ (List.mem_append_right _ (List.mem_append_left _ h)))))
theorem zi6 : ∀ w ∈ WS1, w ∈ WSg := fun w h => List.mem_append_right _ (List.mem_append_right _ (List.mem_append_right _ (List.mem_append_right _ (List.mem_append_right _ (List.mem_append_right _ (List.mem_append_left _ h))))))
theorem zi7 : ∀ w ∈ WS2, w ∈ WSg := fun w h => List.mem_append_right _ (List.mem_append_right _ (List.mem_append_right _ (List.mem_append_right _ (List.mem_append_right _ (List.mem_append_right _ (List.mem_append_right _ (List.mem_append_left _ h)))))))
theorem zi8 : ∀ w ∈ WS3, w ∈ WSg := fun w h => List.mem_append_right _ (List.mem_append_right _ (List.mem_append_right _ (List.mem_append_right _ (List.mem_append_right _ (List.mem_append_right _ (List.mem_append_right _ (List.mem_append_right _ (List.mem_append_left _ h))))))))
theorem zi9 : ∀ w ∈ WS4, w ∈ WSg := fun w h => List.mem_append_right _ (List.mem_append_right _ (List.mem_append_right _ (List.mem_append_right _ (List.mem_append_right _ (List.mem_append_right _ (List.mem_append_right _ (List.mem_append_right _ (List.mem_append_right _ (List.mem_append_left _ h)))))))))
theorem zi10 : ∀ w ∈ WS5, w ∈ WSg := fun w h => List.mem_append_right _ (List.mem_append_right _ (List.mem_append_right _ (List.mem_append_right _ (List.mem_append_right _ (List.mem_append_right _ (List.mem_append_right _ (List.mem_append_right _ (List.mem_append_right _ (List.mem_append_right _ (List.mem_append_left _ h))))))))))
theorem zi11 : ∀ w ∈ WS6, w ∈ WSg := fun w h => List.mem_append_right _ (List.mem_append_right _ (List.mem_append_right _ (List.mem_append_right _ (List.mem_append_right _ (List.mem_append_right _ (List.mem_append_right _ (List.mem_append_right _ (List.mem_append_right _ (List.mem_append_right _ (List.mem_append_right _ (List.mem_append_left _ h)))))))))))
theorem zi12 : ∀ w ∈ WS7, w ∈ WSg := fun w h => List.mem_append_right _ (List.mem_append_right _ (List.mem_append_right _ (List.mem_append_right _ (List.mem_append_right _ (List.mem_append_right _ (List.mem_append_right _ (List.mem_append_right _ (List.mem_append_right _ (List.mem_append_right _ (List.mem_append_right _ (List.mem_append_right _ (List.mem_append_left _ h))))))))))))
theorem zi13 : ∀ w ∈ WS8, w ∈ WSg := fun w h => List.mem_append_right _ (List.mem_append_right _ (List.mem_append_right _ (List.mem_append_right _ (List.mem_append_right _ (List.mem_append_right _ (List.mem_append_right _ (List.mem_append_right _ (List.mem_append_right _ (List.mem_append_right _ (List.mem_append_right _ (List.mem_append_right _ (List.mem_append_right _ (List.mem_append_left _ h)))))))))))))
theorem zi14 : ∀ w ∈ WS9, w ∈ WSg := fun w h => List.mem_append_right _ (List.mem_append_right _ (List.mem_append_right _ (List.mem_append_right _ (List.mem_append_right _ (List.mem_append_right _ (List.mem_append_right _ (List.mem_append_right _ (List.mem_append_right _ (List.mem_append_right _ (List.mem_append_right _ (List.mem_append_right _ (List.mem_append_right _ (List.mem_append_right _ (List.mem_append_left _ h))))))))))))))
theorem zi15 : ∀ w ∈ WS10, w ∈ WSg := fun w h => List.mem_append_right _ (List.mem_append_right _ (List.mem_append_right _ (List.mem_append_right _ (List.mem_append_right _ (List.mem_append_right _ (List.mem_append_right _ (List.mem_append_right _ (List.mem_append_right _ (List.mem_append_right _ (List.mem_append_right _ (List.mem_append_right _ (List.mem_append_right _ (List.mem_append_right _ (List.mem_append_right _ (List.mem_append_left _ h)))))))))))))))
theorem zi16 : ∀ w ∈ WS11, w ∈ WSg := fun w h => List.mem_append_right _ (List.mem_append_right _ (List.mem_append_right _ (List.mem_append_right _ (List.mem_append_right _ (List.mem_append_right _ (List.mem_append_right _ (List.mem_append_right _ (List.mem_append_right _ (List.mem_append_right _ (List.mem_append_right _ (List.mem_append_right _ (List.mem_append_right _ (List.mem_append_right _ (List.mem_append_right _ (List.mem_append_right _ (List.mem_append_left _ h))))))))))))))))
theorem zi17 : ∀ w ∈ WS12, w ∈ WSg := fun w h => List.mem_append_right _ (List.mem_append_right _ (List.mem_append_right _ (List.mem_append_right _ (List.mem_append_right _ (List.mem_append_right _ (List.mem_append_right _ (List.mem_append_right _ (List.mem_append_right _ (List.mem_append_right _ (List.mem_append_right _ (List.mem_append_right _ (List.mem_append_right _ (List.mem_append_right _ (List.mem_append_right _ (List.mem_append_right _ (List.mem_append_right _ (List.mem_append_left _ h)))))))))))))))))
theorem zi18 : ∀ w ∈ WS13, w ∈ WSg := fun w h => List.mem_append_right _ (List.mem_append_right _ (List.mem_append_right _ (List.mem_append_right _ (List.mem_append_right _ (List.mem_append_right _ (List.mem_append_right _ (List.mem_append_right _ (List.mem_append_right _ (List.mem_append_right _ (List.mem_append_right _ (List.mem_append_right _ (List.mem_append_right _ (List.mem_append_right _ (List.mem_append_right _ (List.mem_append_right _ (List.mem_append_right _ (List.mem_append_right _ (List.mem_append_left _ h))))))))))))))))))
theorem zi19 : ∀ w ∈ WS14, w ∈ WSg := fun w h => List.mem_append_right _ (List.mem_append_right _ (List.mem_append_right _ (List.mem_append_right _ (List.mem_append_right _ (List.mem_append_right _ (List.mem_append_right _ (List.mem_append_right _ (List.mem_append_right _ (List.mem_append_right _ (List.mem_append_right _ (List.mem_append_right _ (List.mem_append_right _ (List.mem_append_right _ (List.mem_append_right _ (List.mem_append_right _ (List.mem_append_right _ (List.mem_append_right _ (List.mem_append_right _ (List.mem_append_left _ h)))))))))))))))))))
theorem zi20 : ∀ w ∈ WS15, w ∈ WSg := fun w h => List.mem_append_right _ (List.mem_append_right _ (List.mem_append_right _ (List.mem_append_right _ (List.mem_append_right _ (List.mem_append_right _ (List.mem_append_right _ (List.mem_append_right _ (List.mem_append_right _ (List.mem_append_right _ (List.mem_append_right _ (List.mem_append_right _ (List.mem_append_right _ (List.mem_append_right _ (List.mem_append_right _ (List.mem_append_right _ (List.mem_append_right _ (List.mem_append_right _ (List.mem_append_right _ (List.mem_append_right _ (List.mem_append_left _ h))))))))))))))))))))
theorem zi21 : ∀ w ∈ WS16, w ∈ WSg := fun w h => List.mem_append_right _ (List.mem_append_right _ (List.mem_append_right _ (List.mem_append_right _ (List.mem_append_right _ (List.mem_append_right _ (List.mem_append_right _ (List.mem_append_right _ (List.mem_append_right _ (List.mem_append_right _ (List.mem_append_right _ (List.mem_append_right _ (List.mem_append_right _ (List.mem_append_right _ (List.mem_append_right _ (List.mem_append_right _ (List.mem_append_right _ (List.mem_append_right _ (List.mem_append_right _ (List.mem_append_right _ (List.mem_append_right _ (List.mem_append_left _ h)))))))))))))))))))))
theorem zi22 : ∀ w ∈ WS17, w ∈ WSg := fun w h => List.mem_append_right _ (List.mem_append_right _ (List.mem_append_right _ (List.mem_append_right _ (List.mem_append_right _ (List.mem_append_right _ (List.mem_append_right _ (List.mem_append_right _ (List.mem_append_right _ (List.mem_append_right _ (List.mem_append_right _ (List.mem_append_right _ (List.mem_append_right _ (List.mem_append_right _ (List.mem_append_right _ (List.mem_append_right _ (List.mem_append_right _ (List.mem_append_right _ (List.mem_append_right _ (List.mem_append_right _ (List.mem_append_right _ (List.mem_append_right _ (List.mem_append_left _ h))))))))))))))))))))))
theorem zi23 : ∀ w ∈ WS18, w ∈ WSg := fun w h => List.mem_append_right _ (List.mem_append_right _ (List.mem_append_right _ (List.mem_append_right _ (List.mem_append_right _ (List.mem_append_right _ (List.mem_append_right _ (List.mem_append_right _ (List.mem_append_right _ (List.mem_append_right _ (List.mem_append_right _ (List.mem_append_right _ (List.mem_append_right _ (List.mem_append_right _ (List.mem_append_right _ (List.mem_append_right _ (List.mem_append_right _ (List.mem_append_right _ (List.mem_append_right _ (List.mem_append_right _ (List.mem_append_right _ (List.mem_append_right _ (List.mem_append_right _ (List.mem_append_left _ h)))))))))))))))))))))))
theorem zi24 : ∀ w ∈ WS19, w ∈ WSg := fun w h => List.mem_append_right _ (List.mem_append_right _ (List.mem_append_right _ (List.mem_append_right _ (List.mem_append_right _ (List.mem_append_right _ (List.mem_append_right _ (List.mem_append_right _ (List.mem_append_right _ (List.mem_append_right _ (List.mem_append_right _ (List.mem_append_right _ (List.mem_append_right _ (List.mem_append_right _ (List.mem_append_right _ (List.mem_append_right _ (List.mem_append_right _ (List.mem_append_right _ (List.mem_append_right _ (List.mem_append_right _ (List.mem_append_right _ (List.mem_append_right _ (List.mem_append_right _ (List.mem_append_right _ (List.mem_append_left _ h))))))))))))))))))))))))
theorem zxWX0 : ∀ w ∈ WX0, w ∈ WSg := fun w h => List.mem_append_right _ (List.mem_append_right _ (List.mem_append_right _ (List.mem_append_right _ (List.mem_append_right _ (List.mem_append_right _ (List.mem_append_right _ (List.mem_append_right _ (List.mem_append_right _ (List.mem_append_right _ (List.mem_append_right _ (List.mem_append_right _ (List.mem_append_right _ (List.mem_append_right _ (List.mem_append_right _ (List.mem_append_right _ (List.mem_append_right _ (List.mem_append_right _ (List.mem_append_right _ (List.mem_append_right _ (List.mem_append_right _ (List.mem_append_right _ (List.mem_append_right _ (List.mem_append_right _ (List.mem_append_right _ (List.mem_append_left _ h)))))))))))))))))))))))))
theorem zxWX1 : ∀ w ∈ WX1, w ∈ WSg := fun w h => List.mem_append_right _ (List.mem_append_right _ (List.mem_append_right _ (List.mem_append_right _ (List.mem_append_right _ (List.mem_append_right _ (List.mem_append_right _ (List.mem_append_right _ (List.mem_append_right _ (List.mem_append_right _ (List.mem_append_right _ (List.mem_append_right _ (List.mem_append_right _ (List.mem_append_right _ (List.mem_append_right _ (List.mem_append_right _ (List.mem_append_right _ (List.mem_append_right _ (List.mem_append_right _ (List.mem_append_right _ (List.mem_append_right _ (List.mem_append_right _ (List.mem_append_right _ (List.mem_append_right _ (List.mem_append_right _ (List.mem_append_right _ (List.mem_append_left _ h))))))))))))))))))))))))))
theorem zxWX2 : ∀ w ∈ WX2, w ∈ WSg := fun w h => List.mem_append_right _ (List.mem_append_right _ (List.mem_append_right _ (List.mem_append_right _ (List.mem_append_right _ (List.mem_append_right _ (List.mem_append_right _ (List.mem_append_right _ (List.mem_append_right _ (List.mem_append_right _ (List.mem_append_right _ (List.mem_append_right _ (List.mem_append_right _ (List.mem_append_right _ (List.mem_append_right _ (List.mem_append_right _ (List.mem_append_right _ (List.mem_append_right _ (List.mem_append_right _ (List.mem_append_right _ (List.mem_append_right _ (List.mem_append_right _ (List.mem_append_right _ (List.mem_append_right _ (List.mem_append_right _ (List.mem_append_right _ (List.mem_append_right _ (List.mem_append_left _ h)))))))))))))))))))))))))))
theorem zq0 : ∀ w ∈ u_ws zR_Dir zT_Dir 7, goodWord w = true := List.all_eq_true.mp (by decide +kernel)
theorem zq1 : ∀ w ∈ u_ws zR_Pow zT_Pow 2, goodWord w = true := List.all_eq_true.mp (by decide +kernel)
theorem zq2 : ∀ w ∈ u_ws zR_Set zT_Set 2, goodWord w = true := List.all_eq_true.mp (by decide +kernel)
theorem zq3 : ∀ w ∈ u_ws zR_Lst zT_Lst 6, goodWord w = true := List.all_eq_true.mp (by decide +kernel)
theorem zq4 : ∀ w ∈ u_ws zR_Mod zT_Mod 19, goodWord w = true := List.all_eq_true.mp (by decide +kernel)
theorem zq5 : ∀ w ∈ WS0, goodWord w = true := List.all_eq_true.mp (by decide +kernel)
theorem zq6 : ∀ w ∈ WS1, goodWord w = true := List.all_eq_true.mp (by decide +kernel)
theorem zq7 : ∀ w ∈ WS2, goodWord w = true := List.all_eq_true.mp (by decide +kernel)
theorem zq8 : ∀ w ∈ WS3, goodWord w = true := List.all_eq_true.mp (by decide +kernel)
theorem zq9 : ∀ w ∈ WS4, goodWord w = true := List.all_eq_true.mp (by decide +kernel)
theorem zq10 : ∀ w ∈ WS5, goodWord w = true := List.all_eq_true.mp (by decide +kernel)
theorem zq11 : ∀ w ∈ WS6, goodWord w = true := List.all_eq_true.mp (by decide +kernel)
theorem zq12 : ∀ w ∈ WS7, goodWord w = true := List.all_eq_true.mp (by decide +kernel)
theorem zq13 : ∀ w ∈ WS8, goodWord w = true := List.all_eq_true.mp (by decide +kernel)
theorem zq14 : ∀ w ∈ WS9, goodWord w = true := List.all_eq_true.mp (by decide +kernel)
theorem zq15 : ∀ w ∈ WS10, goodWord w = true := List.all_eq_true.mp (by decide +kernel)
theorem zq16 : ∀ w ∈ WS11, goodWord w = true := List.all_eq_true.mp (by decide +kernel)
theorem zq17 : ∀ w ∈ WS12, goodWord w = true := List.all_eq_true.mp (by decide +kernel)
theorem zq18 : ∀ w ∈ WS13, goodWord w = true := List.all_eq_true.mp (by decide +kernel)
theorem zq19 : ∀ w ∈ WS14, goodWord w = true := List.all_eq_true.mp (by decide +kernel)
theorem zq20 : ∀ w ∈ WS15, goodWord w = true := List.all_eq_true.mp (by decide +kernel)
theorem zq21 : ∀ w ∈ WS16, goodWord w = true := List.all_eq_true.mp (by decide +kernel)
theorem zq22 : ∀ w ∈ WS17, goodWord w = true := List.all_eq_true.mp (by decide +kernel)
theorem zq23 : ∀ w ∈ WS18, goodWord w = true := List.all_eq_true.mp (by decide +kernel)
theorem zq24 : ∀ w ∈ WS19, goodWord w = true := List.all_eq_true.mp (by decide +kernel)
theorem zq25 : ∀ w ∈ WX0, goodWord w = true := fun w h => (List.mem_filter.mp h).2
theorem zq26 : ∀ w ∈ WX1, goodWord w = true := fun w h => (List.mem_filter.mp h).2
theorem zq27 : ∀ w ∈ WX2, goodWord w = true := fun w h => (List.mem_filter.mp h).2
theorem zgood : ∀ w ∈ WSg, goodWord w = true := fun w h => (List.mem_append.mp h).elim (zq0 w) (fun h => (List.mem_append.mp h).elim (zq1 w) (fun h => (List.mem_append.mp h).elim (zq2 w) (fun h => (List.mem_append.mp h).elim (zq3 w) (fun h => (List.mem_append.mp h).elim (zq4 w) (fun h => (List.mem_append.mp h).elim (zq5 w) (fun h => (List.mem_append.mp h).elim (zq6 w) (fun h => (List.mem_append.mp h).elim (zq7 w) (fun h => (List.mem_append.mp h).elim (zq8 w) (fun h => (List.mem_append.mp h).elim (zq9 w) (fun h => (List.mem_append.mp h).elim (zq10 w) (fun h => (List.mem_append.mp h).elim (zq11 w) (fun h => (List.mem_append.mp h).elim (zq12 w) (fun h => (List.mem_append.mp h).elim (zq13 w) (fun h => (List.mem_append.mp h).elim (zq14 w) (fun h => (List.mem_append.mp h).elim (zq15 w) (fun h => (List.mem_append.mp h).elim (zq16 w) (fun h => (List.mem_append.mp h).elim (zq17 w) (fun h => (List.mem_append.mp h).elim (zq18 w) (fun h => (List.mem_append.mp h).elim (zq19 w) (fun h => (List.mem_append.mp h).elim (zq20 w) (fun h => (List.mem_append.mp h).elim (zq21 w) (fun h => (List.mem_append.mp h).elim (zq22 w) (fun h => (List.mem_append.mp h).elim (zq23 w) (fun h => (List.mem_append.mp h).elim (zq24 w) (fun h => (List.mem_append.mp h).elim (zq25 w) (fun h => (List.mem_append.mp h).elim (zq26 w) (fun h => (List.mem_append.mp h).elim (zq27 w) (fun h => absurd h List.not_mem_nil))))))))))))))))))))))))))))
theorem wk0 : (.code zy_Dir_init zc_Dir_init 1 none : Cond) ∈ WSg := zi5 _ (List.mem_of_getElem? (l := WS0) (i := 0) rfl)
theorem wk1 : (.methodLink zR_Dir 3 Lib.objectInit : Cond) ∈ WSg := zi5 _ (List.mem_of_getElem? (l := WS0) (i := 1) rfl)
theorem wk2 : (.instanceMethod Lib.objectInit : Cond) ∈ WSg := zi5 _ (List.mem_of_getElem? (l := WS0) (i := 2) rfl)
theorem wk3 : (.code Lib.objectInit ⟨#[0xb1]⟩ 1 none : Cond) ∈ WSg := zi5 _ (List.mem_of_getElem? (l := WS0) (i := 3) rfl)
theorem wk4 : (.arrayClass .long : Cond) ∈ WSg := zi5 _ (List.mem_of_getElem? (l := WS0) (i := 4) rfl)
theorem wk5 : (.fieldLink zR_Dir 9 zR_Dir "names" "[J" : Cond) ∈ WSg := zi5 _ (List.mem_of_getElem? (l := WS0) (i := 5) rfl)
theorem wk6 : (.arrayClass .int : Cond) ∈ WSg := zi5 _ (List.mem_of_getElem? (l := WS0) (i := 6) rfl)
theorem wk7 : (.fieldLink zR_Dir 15 zR_Dir "serials" "[I" : Cond) ∈ WSg := zi5 _ (List.mem_of_getElem? (l := WS0) (i := 7) rfl)
theorem wk8 : (.fieldLink zR_Dir 19 zR_Dir "targets" "[I" : Cond) ∈ WSg := zi5 _ (List.mem_of_getElem? (l := WS0) (i := 8) rfl)
theorem wk9 : (.classLink zR_Dir 22 zR_Set : Cond) ∈ WSg := zi5 _ (List.mem_of_getElem? (l := WS0) (i := 9) rfl)
theorem wk10 : (.instantiable zR_Set 2 : Cond) ∈ WSg := zi5 _ (List.mem_of_getElem? (l := WS0) (i := 10) rfl)
theorem wk11 : (.initialized zR_Set : Cond) ∈ WSg := zi5 _ (List.mem_of_getElem? (l := WS0) (i := 11) rfl)
theorem wk12 : (.instanceMethod zy_Set_init : Cond) ∈ WSg := zi5 _ (List.mem_of_getElem? (l := WS0) (i := 12) rfl)
theorem wk13 : (.fieldLink zR_Dir 25 zR_Dir "nameRows" "LListedNames$RowSet;" : Cond) ∈ WSg := zi5 _ (List.mem_of_getElem? (l := WS0) (i := 13) rfl)
theorem wk14 : (.fieldLink zR_Dir 29 zR_Dir "serialRows" "LListedNames$RowSet;" : Cond) ∈ WSg := zi5 _ (List.mem_of_getElem? (l := WS0) (i := 14) rfl)
theorem wk15 : (.fieldLink zR_Dir 32 zR_Dir "size" "I" : Cond) ∈ WSg := zi5 _ (List.mem_of_getElem? (l := WS0) (i := 15) rfl)
theorem wk16 : (.fieldLink zR_Dir 36 zR_Dir "latestSerial" "I" : Cond) ∈ WSg := zi5 _ (List.mem_of_getElem? (l := WS0) (i := 16) rfl)
theorem wk17 : (.code zy_Dir_copyFrom zc_Dir_copyFrom 2 none : Cond) ∈ WSg := zi5 _ (List.mem_of_getElem? (l := WS0) (i := 17) rfl)
theorem wk18 : (.methodLink zR_Dir 39 arraycopyName : Cond) ∈ WSg := zi5 _ (List.mem_of_getElem? (l := WS0) (i := 18) rfl)
theorem wk19 : (.native arraycopyName : Cond) ∈ WSg := zi5 _ (List.mem_of_getElem? (l := WS0) (i := 19) rfl)
theorem wk20 : (.static arraycopyName : Cond) ∈ WSg := zi5 _ (List.mem_of_getElem? (l := WS0) (i := 20) rfl)
theorem wk21 : (.initialized "java/lang/System" : Cond) ∈ WSg := zi5 _ (List.mem_of_getElem? (l := WS0) (i := 21) rfl)
theorem wk22 : (.methodLink zR_Dir 45 zy_Set_copyFrom : Cond) ∈ WSg := zi5 _ (List.mem_of_getElem? (l := WS0) (i := 22) rfl)
theorem wk23 : (.instanceMethod zy_Set_copyFrom : Cond) ∈ WSg := zi5 _ (List.mem_of_getElem? (l := WS0) (i := 23) rfl)
theorem wk24 : (.selects zR_Set zy_Set_copyFrom zy_Set_copyFrom : Cond) ∈ WSg := zi5 _ (List.mem_of_getElem? (l := WS0) (i := 24) rfl)
theorem wk25 : (.code zy_Dir_entries zc_Dir_entries 1 (some .int) : Cond) ∈ WSg := zi6 _ (List.mem_of_getElem? (l := WS1) (i := 0) rfl)
theorem wk26 : (.code zy_Dir_hasMostEntries zc_Dir_hasMostEntries 1 (some .boolean) : Cond) ∈ WSg := zi6 _ (List.mem_of_getElem? (l := WS1) (i := 1) rfl)
theorem wk27 : (.code zy_Dir_serialAt zc_Dir_serialAt 2 (some .int) : Cond) ∈ WSg := zi6 _ (List.mem_of_getElem? (l := WS1) (i := 2) rfl)
theorem wk28 : (.code zy_Dir_nameAt zc_Dir_nameAt 2 (some .long) : Cond) ∈ WSg := zi6 _ (List.mem_of_getElem? (l := WS1) (i := 3) rfl)
theorem wk29 : (.code zy_Dir_targetAt zc_Dir_targetAt 2 (some .int) : Cond) ∈ WSg := zi6 _ (List.mem_of_getElem? (l := WS1) (i := 4) rfl)
theorem wk30 : (.code zy_Dir_indexOfName zc_Dir_indexOfName 4 (some .int) : Cond) ∈ WSg := zi6 _ (List.mem_of_getElem? (l := WS1) (i := 5) rfl)
theorem wk31 : (.code zy_Dir_indexOfSerial zc_Dir_indexOfSerial 3 (some .int) : Cond) ∈ WSg := zi6 _ (List.mem_of_getElem? (l := WS1) (i := 6) rfl)
theorem wk32 : (.code zy_Dir_indexAbove zc_Dir_indexAbove 3 (some .int) : Cond) ∈ WSg := zi6 _ (List.mem_of_getElem? (l := WS1) (i := 7) rfl)
theorem wk33 : (.code zy_Dir_indexListed zc_Dir_indexListed 5 (some .int) : Cond) ∈ WSg := zi6 _ (List.mem_of_getElem? (l := WS1) (i := 8) rfl)
theorem wk34 : (.methodLink zR_Dir 49 zy_Row_beginning : Cond) ∈ WSg := zi6 _ (List.mem_of_getElem? (l := WS1) (i := 9) rfl)
theorem wk35 : (.initialized zR_Row : Cond) ∈ WSg := zi6 _ (List.mem_of_getElem? (l := WS1) (i := 10) rfl)
theorem wk36 : (.static zy_Row_beginning : Cond) ∈ WSg := zi6 _ (List.mem_of_getElem? (l := WS1) (i := 11) rfl)
theorem wk37 : (.methodLink zR_Dir 55 zy_Set_rowWith : Cond) ∈ WSg := zi6 _ (List.mem_of_getElem? (l := WS1) (i := 12) rfl)
theorem wk38 : (.instanceMethod zy_Set_rowWith : Cond) ∈ WSg := zi6 _ (List.mem_of_getElem? (l := WS1) (i := 13) rfl)
theorem wk39 : (.selects zR_Set zy_Set_rowWith zy_Set_rowWith : Cond) ∈ WSg := zi6 _ (List.mem_of_getElem? (l := WS1) (i := 14) rfl)
theorem wk40 : (.methodLink zR_Dir 59 zy_Dir_indexOfName : Cond) ∈ WSg := zi6 _ (List.mem_of_getElem? (l := WS1) (i := 15) rfl)
theorem wk41 : (.initialized zR_Dir : Cond) ∈ WSg := zi6 _ (List.mem_of_getElem? (l := WS1) (i := 16) rfl)
theorem wk42 : (.instanceMethod zy_Dir_indexOfName : Cond) ∈ WSg := zi6 _ (List.mem_of_getElem? (l := WS1) (i := 17) rfl)
theorem wk43 : (.selects zR_Dir zy_Dir_indexOfName zy_Dir_indexOfName : Cond) ∈ WSg := zi6 _ (List.mem_of_getElem? (l := WS1) (i := 18) rfl)
theorem wk44 : (.code zy_Dir_namesBefore zc_Dir_namesBefore 3 (some .int) : Cond) ∈ WSg := zi6 _ (List.mem_of_getElem? (l := WS1) (i := 19) rfl)
theorem wk45 : (.methodLink zR_Dir 63 zy_Set_rowsBefore : Cond) ∈ WSg := zi6 _ (List.mem_of_getElem? (l := WS1) (i := 20) rfl)
theorem wk46 : (.instanceMethod zy_Set_rowsBefore : Cond) ∈ WSg := zi6 _ (List.mem_of_getElem? (l := WS1) (i := 21) rfl)
theorem wk47 : (.selects zR_Set zy_Set_rowsBefore zy_Set_rowsBefore : Cond) ∈ WSg := zi6 _ (List.mem_of_getElem? (l := WS1) (i := 22) rfl)
theorem wk48 : (.code zy_Dir_enter zc_Dir_enter 4 (some .int) : Cond) ∈ WSg := zi6 _ (List.mem_of_getElem? (l := WS1) (i := 23) rfl)
theorem wk49 : (.methodLink zR_Dir 66 zy_Dir_hasMostEntries : Cond) ∈ WSg := zi6 _ (List.mem_of_getElem? (l := WS1) (i := 24) rfl)
theorem wk50 : (.instanceMethod zy_Dir_hasMostEntries : Cond) ∈ WSg := zi7 _ (List.mem_of_getElem? (l := WS2) (i := 0) rfl)
theorem wk51 : (.selects zR_Dir zy_Dir_hasMostEntries zy_Dir_hasMostEntries : Cond) ∈ WSg := zi7 _ (List.mem_of_getElem? (l := WS2) (i := 1) rfl)
theorem wk52 : (.methodLink zR_Dir 70 zy_Set_insert : Cond) ∈ WSg := zi7 _ (List.mem_of_getElem? (l := WS2) (i := 2) rfl)
theorem wk53 : (.instanceMethod zy_Set_insert : Cond) ∈ WSg := zi7 _ (List.mem_of_getElem? (l := WS2) (i := 3) rfl)
theorem wk54 : (.selects zR_Set zy_Set_insert zy_Set_insert : Cond) ∈ WSg := zi7 _ (List.mem_of_getElem? (l := WS2) (i := 4) rfl)
theorem wk55 : (.methodLink zR_Dir 74 zy_Row_ofSerial : Cond) ∈ WSg := zi7 _ (List.mem_of_getElem? (l := WS2) (i := 5) rfl)
theorem wk56 : (.static zy_Row_ofSerial : Cond) ∈ WSg := zi7 _ (List.mem_of_getElem? (l := WS2) (i := 6) rfl)
theorem wk57 : (.code zy_Dir_drop zc_Dir_drop 2 none : Cond) ∈ WSg := zi7 _ (List.mem_of_getElem? (l := WS2) (i := 7) rfl)
theorem wk58 : (.methodLink zR_Dir 78 zy_Set_take : Cond) ∈ WSg := zi7 _ (List.mem_of_getElem? (l := WS2) (i := 8) rfl)
theorem wk59 : (.instanceMethod zy_Set_take : Cond) ∈ WSg := zi7 _ (List.mem_of_getElem? (l := WS2) (i := 9) rfl)
theorem wk60 : (.selects zR_Set zy_Set_take zy_Set_take : Cond) ∈ WSg := zi7 _ (List.mem_of_getElem? (l := WS2) (i := 10) rfl)
theorem wk61 : (.code zy_Dir_giveTarget zc_Dir_giveTarget 3 none : Cond) ∈ WSg := zi7 _ (List.mem_of_getElem? (l := WS2) (i := 11) rfl)
theorem wk62 : (.code zy_Dir_giveName zc_Dir_giveName 4 none : Cond) ∈ WSg := zi7 _ (List.mem_of_getElem? (l := WS2) (i := 12) rfl)
theorem wk63 : (.code zy_Dir_freePages zc_Dir_freePages 1 (some .int) : Cond) ∈ WSg := zi7 _ (List.mem_of_getElem? (l := WS2) (i := 13) rfl)
theorem wk64 : (.methodLink zR_Dir 81 zy_Set_places : Cond) ∈ WSg := zi7 _ (List.mem_of_getElem? (l := WS2) (i := 14) rfl)
theorem wk65 : (.instanceMethod zy_Set_places : Cond) ∈ WSg := zi7 _ (List.mem_of_getElem? (l := WS2) (i := 15) rfl)
theorem wk66 : (.selects zR_Set zy_Set_places zy_Set_places : Cond) ∈ WSg := zi7 _ (List.mem_of_getElem? (l := WS2) (i := 16) rfl)
theorem wk67 : (.code zy_Dir_pagesOfName zc_Dir_pagesOfName 3 (some .int) : Cond) ∈ WSg := zi7 _ (List.mem_of_getElem? (l := WS2) (i := 17) rfl)
theorem wk68 : (.methodLink zR_Dir 85 zy_Set_placesAlong : Cond) ∈ WSg := zi7 _ (List.mem_of_getElem? (l := WS2) (i := 18) rfl)
theorem wk69 : (.instanceMethod zy_Set_placesAlong : Cond) ∈ WSg := zi7 _ (List.mem_of_getElem? (l := WS2) (i := 19) rfl)
theorem wk70 : (.selects zR_Set zy_Set_placesAlong zy_Set_placesAlong : Cond) ∈ WSg := zi7 _ (List.mem_of_getElem? (l := WS2) (i := 20) rfl)
theorem wk71 : (.code zy_Dir_pagesOfNames zc_Dir_pagesOfNames 6 (some .int) : Cond) ∈ WSg := zi7 _ (List.mem_of_getElem? (l := WS2) (i := 21) rfl)
theorem wk72 : (.methodLink zR_Dir 89 zy_Row_lengthInCommon : Cond) ∈ WSg := zi7 _ (List.mem_of_getElem? (l := WS2) (i := 22) rfl)
theorem wk73 : (.static zy_Row_lengthInCommon : Cond) ∈ WSg := zi7 _ (List.mem_of_getElem? (l := WS2) (i := 23) rfl)
theorem wk74 : (.code zy_Dir_pagesOfSerial zc_Dir_pagesOfSerial 2 (some .int) : Cond) ∈ WSg := zi7 _ (List.mem_of_getElem? (l := WS2) (i := 24) rfl)
theorem wk75 : (.code zy_Pow_init zc_Pow_init 1 none : Cond) ∈ WSg := zi8 _ (List.mem_of_getElem? (l := WS3) (i := 0) rfl)
theorem wk76 : (.methodLink zR_Pow 3 Lib.objectInit : Cond) ∈ WSg := zi8 _ (List.mem_of_getElem? (l := WS3) (i := 1) rfl)
theorem wk77 : (.fieldLink zR_Pow 9 zR_Pow "supplied" "Z" : Cond) ∈ WSg := zi8 _ (List.mem_of_getElem? (l := WS3) (i := 2) rfl)
theorem wk78 : (.fieldLink zR_Pow 15 zR_Pow "writesLeft" "I" : Cond) ∈ WSg := zi8 _ (List.mem_of_getElem? (l := WS3) (i := 3) rfl)
theorem wk79 : (.code zy_Pow_isSupplied zc_Pow_isSupplied 1 (some .boolean) : Cond) ∈ WSg := zi8 _ (List.mem_of_getElem? (l := WS3) (i := 4) rfl)
theorem wk80 : (.code zy_Pow_allow zc_Pow_allow 2 none : Cond) ∈ WSg := zi8 _ (List.mem_of_getElem? (l := WS3) (i := 5) rfl)
theorem wk81 : (.code zy_Pow_restore zc_Pow_restore 1 none : Cond) ∈ WSg := zi8 _ (List.mem_of_getElem? (l := WS3) (i := 6) rfl)
theorem wk82 : (.code zy_Pow_write zc_Pow_write 3 (some .int) : Cond) ∈ WSg := zi8 _ (List.mem_of_getElem? (l := WS3) (i := 7) rfl)
theorem wk83 : (.methodLink zR_Pow 19 Lib.Math.min.name : Cond) ∈ WSg := zi8 _ (List.mem_of_getElem? (l := WS3) (i := 8) rfl)
theorem wk84 : (.static Lib.Math.min.name : Cond) ∈ WSg := zi8 _ (List.mem_of_getElem? (l := WS3) (i := 9) rfl)
theorem wk85 : (.initialized "java/lang/Math" : Cond) ∈ WSg := zi8 _ (List.mem_of_getElem? (l := WS3) (i := 10) rfl)
theorem wk86 : (.code Lib.Math.min.name Lib.Math.min.code 2 (some .int) : Cond) ∈ WSg := zi8 _ (List.mem_of_getElem? (l := WS3) (i := 11) rfl)
theorem wk87 : (.code zy_Row_extended zc_Row_extended 4 (some .long) : Cond) ∈ WSg := zi8 _ (List.mem_of_getElem? (l := WS3) (i := 12) rfl)
theorem wk88 : (.code zy_Row_ofSerial zc_Row_ofSerial 1 (some .long) : Cond) ∈ WSg := zi8 _ (List.mem_of_getElem? (l := WS3) (i := 13) rfl)
theorem wk89 : (.methodLink zR_Row 11 zy_Row_extended : Cond) ∈ WSg := zi8 _ (List.mem_of_getElem? (l := WS3) (i := 14) rfl)
theorem wk90 : (.static zy_Row_extended : Cond) ∈ WSg := zi8 _ (List.mem_of_getElem? (l := WS3) (i := 15) rfl)
theorem wk91 : (.code zy_Row_beginning zc_Row_beginning 3 (some .long) : Cond) ∈ WSg := zi8 _ (List.mem_of_getElem? (l := WS3) (i := 16) rfl)
theorem wk92 : (.constantLong zR_Row 15 (-1) : Cond) ∈ WSg := zi8 _ (List.mem_of_getElem? (l := WS3) (i := 17) rfl)
theorem wk93 : (.code zy_Row_lengthOf zc_Row_lengthOf 3 (some .int) : Cond) ∈ WSg := zi8 _ (List.mem_of_getElem? (l := WS3) (i := 18) rfl)
theorem wk94 : (.methodLink zR_Row 17 zy_Row_digitAt : Cond) ∈ WSg := zi8 _ (List.mem_of_getElem? (l := WS3) (i := 19) rfl)
theorem wk95 : (.static zy_Row_digitAt : Cond) ∈ WSg := zi8 _ (List.mem_of_getElem? (l := WS3) (i := 20) rfl)
theorem wk96 : (.code zy_Row_lengthInCommon zc_Row_lengthInCommon 5 (some .int) : Cond) ∈ WSg := zi8 _ (List.mem_of_getElem? (l := WS3) (i := 21) rfl)
theorem wk97 : (.code zy_Row_wordOf zc_Row_wordOf 6 (some .long) : Cond) ∈ WSg := zi8 _ (List.mem_of_getElem? (l := WS3) (i := 22) rfl)
theorem wk98 : (.methodLink zR_Row 21 zy_Row_lengthOf : Cond) ∈ WSg := zi8 _ (List.mem_of_getElem? (l := WS3) (i := 23) rfl)
theorem wk99 : (.static zy_Row_lengthOf : Cond) ∈ WSg := zi8 _ (List.mem_of_getElem? (l := WS3) (i := 24) rfl)
theorem wk100 : (.code zy_Row_digitAt zc_Row_digitAt 3 (some .int) : Cond) ∈ WSg := zi9 _ (List.mem_of_getElem? (l := WS4) (i := 0) rfl)
theorem wk101 : (.code zy_Set_init zc_Set_init 1 none : Cond) ∈ WSg := zi9 _ (List.mem_of_getElem? (l := WS4) (i := 1) rfl)
theorem wk102 : (.methodLink zR_Set 3 Lib.objectInit : Cond) ∈ WSg := zi9 _ (List.mem_of_getElem? (l := WS4) (i := 2) rfl)
theorem wk103 : (.fieldLink zR_Set 9 zR_Set "rows" "[J" : Cond) ∈ WSg := zi9 _ (List.mem_of_getElem? (l := WS4) (i := 3) rfl)
theorem wk104 : (.fieldLink zR_Set 15 zR_Set "size" "I" : Cond) ∈ WSg := zi9 _ (List.mem_of_getElem? (l := WS4) (i := 4) rfl)
theorem wk105 : (.code zy_Set_copyFrom zc_Set_copyFrom 2 none : Cond) ∈ WSg := zi9 _ (List.mem_of_getElem? (l := WS4) (i := 5) rfl)
theorem wk106 : (.methodLink zR_Set 19 arraycopyName : Cond) ∈ WSg := zi9 _ (List.mem_of_getElem? (l := WS4) (i := 6) rfl)
theorem wk107 : (.code zy_Set_insert zc_Set_insert 4 none : Cond) ∈ WSg := zi9 _ (List.mem_of_getElem? (l := WS4) (i := 7) rfl)
theorem wk108 : (.methodLink zR_Set 25 zy_Set_rowsBefore : Cond) ∈ WSg := zi9 _ (List.mem_of_getElem? (l := WS4) (i := 8) rfl)
theorem wk109 : (.code zy_Set_take zc_Set_take 4 none : Cond) ∈ WSg := zi9 _ (List.mem_of_getElem? (l := WS4) (i := 9) rfl)
theorem wk110 : (.code zy_Set_rowsBefore zc_Set_rowsBefore 4 (some .int) : Cond) ∈ WSg := zi9 _ (List.mem_of_getElem? (l := WS4) (i := 10) rfl)
theorem wk111 : (.code zy_Set_rowWith zc_Set_rowWith 6 (some .long) : Cond) ∈ WSg := zi9 _ (List.mem_of_getElem? (l := WS4) (i := 11) rfl)
theorem wk112 : (.methodLink zR_Set 29 zy_Set_hasBeginning : Cond) ∈ WSg := zi9 _ (List.mem_of_getElem? (l := WS4) (i := 12) rfl)
theorem wk113 : (.instanceMethod zy_Set_hasBeginning : Cond) ∈ WSg := zi9 _ (List.mem_of_getElem? (l := WS4) (i := 13) rfl)
theorem wk114 : (.selects zR_Set zy_Set_hasBeginning zy_Set_hasBeginning : Cond) ∈ WSg := zi9 _ (List.mem_of_getElem? (l := WS4) (i := 14) rfl)
theorem wk115 : (.code zy_Set_places zc_Set_places 6 (some .int) : Cond) ∈ WSg := zi9 _ (List.mem_of_getElem? (l := WS4) (i := 15) rfl)
theorem wk116 : (.methodLink zR_Set 35 zy_Row_lengthInCommon : Cond) ∈ WSg := zi9 _ (List.mem_of_getElem? (l := WS4) (i := 16) rfl)
theorem wk117 : (.methodLink zR_Set 39 zy_Row_lengthOf : Cond) ∈ WSg := zi9 _ (List.mem_of_getElem? (l := WS4) (i := 17) rfl)
theorem wk118 : (.methodLink zR_Set 42 zy_Set_isPlace : Cond) ∈ WSg := zi9 _ (List.mem_of_getElem? (l := WS4) (i := 18) rfl)
theorem wk119 : (.instanceMethod zy_Set_isPlace : Cond) ∈ WSg := zi9 _ (List.mem_of_getElem? (l := WS4) (i := 19) rfl)
theorem wk120 : (.selects zR_Set zy_Set_isPlace zy_Set_isPlace : Cond) ∈ WSg := zi9 _ (List.mem_of_getElem? (l := WS4) (i := 20) rfl)
theorem wk121 : (.code zy_Set_placesAlong zc_Set_placesAlong 7 (some .int) : Cond) ∈ WSg := zi9 _ (List.mem_of_getElem? (l := WS4) (i := 21) rfl)
theorem wk122 : (.methodLink zR_Set 46 zy_Set_isPlaceAlong : Cond) ∈ WSg := zi9 _ (List.mem_of_getElem? (l := WS4) (i := 22) rfl)
theorem wk123 : (.instanceMethod zy_Set_isPlaceAlong : Cond) ∈ WSg := zi9 _ (List.mem_of_getElem? (l := WS4) (i := 23) rfl)
theorem wk124 : (.selects zR_Set zy_Set_isPlaceAlong zy_Set_isPlaceAlong : Cond) ∈ WSg := zi9 _ (List.mem_of_getElem? (l := WS4) (i := 24) rfl)
theorem wk125 : (.code zy_Set_isPlaceAlong zc_Set_isPlaceAlong 7 (some .boolean) : Cond) ∈ WSg := zi10 _ (List.mem_of_getElem? (l := WS5) (i := 0) rfl)
theorem wk126 : (.methodLink zR_Set 50 zy_Row_beginning : Cond) ∈ WSg := zi10 _ (List.mem_of_getElem? (l := WS5) (i := 1) rfl)
theorem wk127 : (.code zy_Set_hasBeginning zc_Set_hasBeginning 5 (some .boolean) : Cond) ∈ WSg := zi10 _ (List.mem_of_getElem? (l := WS5) (i := 2) rfl)
theorem wk128 : (.code zy_Set_isPlace zc_Set_isPlace 6 (some .boolean) : Cond) ∈ WSg := zi10 _ (List.mem_of_getElem? (l := WS5) (i := 3) rfl)
theorem wk129 : (.code zy_Lst_init zc_Lst_init 1 none : Cond) ∈ WSg := zi10 _ (List.mem_of_getElem? (l := WS5) (i := 4) rfl)
theorem wk130 : (.methodLink zR_Lst 1 Lib.objectInit : Cond) ∈ WSg := zi10 _ (List.mem_of_getElem? (l := WS5) (i := 5) rfl)
theorem wk131 : (.classLink zR_Lst 7 zR_Dir : Cond) ∈ WSg := zi10 _ (List.mem_of_getElem? (l := WS5) (i := 6) rfl)
theorem wk132 : (.instantiable zR_Dir 7 : Cond) ∈ WSg := zi10 _ (List.mem_of_getElem? (l := WS5) (i := 7) rfl)
theorem wk133 : (.instanceMethod zy_Dir_init : Cond) ∈ WSg := zi10 _ (List.mem_of_getElem? (l := WS5) (i := 8) rfl)
theorem wk134 : (.fieldLink zR_Lst 10 zR_Lst "held" "LListedNames$Directory;" : Cond) ∈ WSg := zi10 _ (List.mem_of_getElem? (l := WS5) (i := 9) rfl)
theorem wk135 : (.fieldLink zR_Lst 16 zR_Lst "draft" "LListedNames$Directory;" : Cond) ∈ WSg := zi10 _ (List.mem_of_getElem? (l := WS5) (i := 10) rfl)
theorem wk136 : (.classLink zR_Lst 19 zR_Pow : Cond) ∈ WSg := zi10 _ (List.mem_of_getElem? (l := WS5) (i := 11) rfl)
theorem wk137 : (.instantiable zR_Pow 2 : Cond) ∈ WSg := zi10 _ (List.mem_of_getElem? (l := WS5) (i := 12) rfl)
theorem wk138 : (.initialized zR_Pow : Cond) ∈ WSg := zi10 _ (List.mem_of_getElem? (l := WS5) (i := 13) rfl)
theorem wk139 : (.instanceMethod zy_Pow_init : Cond) ∈ WSg := zi10 _ (List.mem_of_getElem? (l := WS5) (i := 14) rfl)
theorem wk140 : (.fieldLink zR_Lst 22 zR_Lst "power" "LListedNames$Power;" : Cond) ∈ WSg := zi10 _ (List.mem_of_getElem? (l := WS5) (i := 15) rfl)
theorem wk141 : (.methodLink zR_Lst 28 zy_Row_extended : Cond) ∈ WSg := zi10 _ (List.mem_of_getElem? (l := WS5) (i := 16) rfl)
theorem wk142 : (.fieldLink zR_Lst 32 zR_Lst "nameAtHand" "J" : Cond) ∈ WSg := zi10 _ (List.mem_of_getElem? (l := WS5) (i := 17) rfl)
theorem wk143 : (.fieldLink zR_Lst 36 zR_Lst "serialFound" "I" : Cond) ∈ WSg := zi10 _ (List.mem_of_getElem? (l := WS5) (i := 18) rfl)
theorem wk144 : (.fieldLink zR_Lst 40 zR_Lst "latestWrites" "I" : Cond) ∈ WSg := zi10 _ (List.mem_of_getElem? (l := WS5) (i := 19) rfl)
theorem wk145 : (.code zy_Lst_name zc_Lst_name 8 none : Cond) ∈ WSg := zi10 _ (List.mem_of_getElem? (l := WS5) (i := 20) rfl)
theorem wk146 : (.classLink zR_Lst 43 "java/lang/IllegalArgumentException" : Cond) ∈ WSg := zi10 _ (List.mem_of_getElem? (l := WS5) (i := 21) rfl)
theorem wk147 : (.initialized "java/lang/IllegalArgumentException" : Cond) ∈ WSg := zi10 _ (List.mem_of_getElem? (l := WS5) (i := 22) rfl)
theorem wk148 : (.code zy_Lst_add zc_Lst_add 3 (some .int) : Cond) ∈ WSg := zi10 _ (List.mem_of_getElem? (l := WS5) (i := 23) rfl)
theorem wk149 : (.methodLink zR_Lst 46 zy_Lst_requirePower : Cond) ∈ WSg := zi10 _ (List.mem_of_getElem? (l := WS5) (i := 24) rfl)
theorem wk150 : (.initialized zR_Lst : Cond) ∈ WSg := zi11 _ (List.mem_of_getElem? (l := WS6) (i := 0) rfl)
theorem wk151 : (.instanceMethod zy_Lst_requirePower : Cond) ∈ WSg := zi11 _ (List.mem_of_getElem? (l := WS6) (i := 1) rfl)
theorem wk152 : (.selects zR_Lst zy_Lst_requirePower zy_Lst_requirePower : Cond) ∈ WSg := zi11 _ (List.mem_of_getElem? (l := WS6) (i := 2) rfl)
theorem wk153 : (.methodLink zR_Lst 49 zy_Dir_indexOfName : Cond) ∈ WSg := zi11 _ (List.mem_of_getElem? (l := WS6) (i := 3) rfl)
theorem wk154 : (.methodLink zR_Lst 53 zy_Dir_hasMostEntries : Cond) ∈ WSg := zi11 _ (List.mem_of_getElem? (l := WS6) (i := 4) rfl)
theorem wk155 : (.methodLink zR_Lst 57 zy_Dir_copyFrom : Cond) ∈ WSg := zi11 _ (List.mem_of_getElem? (l := WS6) (i := 5) rfl)
theorem wk156 : (.instanceMethod zy_Dir_copyFrom : Cond) ∈ WSg := zi11 _ (List.mem_of_getElem? (l := WS6) (i := 6) rfl)
theorem wk157 : (.selects zR_Dir zy_Dir_copyFrom zy_Dir_copyFrom : Cond) ∈ WSg := zi11 _ (List.mem_of_getElem? (l := WS6) (i := 7) rfl)
theorem wk158 : (.methodLink zR_Lst 61 zy_Dir_enter : Cond) ∈ WSg := zi11 _ (List.mem_of_getElem? (l := WS6) (i := 8) rfl)
theorem wk159 : (.instanceMethod zy_Dir_enter : Cond) ∈ WSg := zi11 _ (List.mem_of_getElem? (l := WS6) (i := 9) rfl)
theorem wk160 : (.selects zR_Dir zy_Dir_enter zy_Dir_enter : Cond) ∈ WSg := zi11 _ (List.mem_of_getElem? (l := WS6) (i := 10) rfl)
theorem wk161 : (.methodLink zR_Lst 65 zy_Dir_pagesOfName : Cond) ∈ WSg := zi11 _ (List.mem_of_getElem? (l := WS6) (i := 11) rfl)
theorem wk162 : (.instanceMethod zy_Dir_pagesOfName : Cond) ∈ WSg := zi11 _ (List.mem_of_getElem? (l := WS6) (i := 12) rfl)
theorem wk163 : (.selects zR_Dir zy_Dir_pagesOfName zy_Dir_pagesOfName : Cond) ∈ WSg := zi11 _ (List.mem_of_getElem? (l := WS6) (i := 13) rfl)
theorem wk164 : (.methodLink zR_Lst 68 zy_Dir_pagesOfSerial : Cond) ∈ WSg := zi11 _ (List.mem_of_getElem? (l := WS6) (i := 14) rfl)
theorem wk165 : (.instanceMethod zy_Dir_pagesOfSerial : Cond) ∈ WSg := zi11 _ (List.mem_of_getElem? (l := WS6) (i := 15) rfl)
theorem wk166 : (.selects zR_Dir zy_Dir_pagesOfSerial zy_Dir_pagesOfSerial : Cond) ∈ WSg := zi11 _ (List.mem_of_getElem? (l := WS6) (i := 16) rfl)
theorem wk167 : (.methodLink zR_Lst 72 zy_Lst_carryOut : Cond) ∈ WSg := zi11 _ (List.mem_of_getElem? (l := WS6) (i := 17) rfl)
theorem wk168 : (.instanceMethod zy_Lst_carryOut : Cond) ∈ WSg := zi11 _ (List.mem_of_getElem? (l := WS6) (i := 18) rfl)
theorem wk169 : (.selects zR_Lst zy_Lst_carryOut zy_Lst_carryOut : Cond) ∈ WSg := zi11 _ (List.mem_of_getElem? (l := WS6) (i := 19) rfl)
theorem wk170 : (.code zy_Lst_remove zc_Lst_remove 3 (some .int) : Cond) ∈ WSg := zi11 _ (List.mem_of_getElem? (l := WS6) (i := 20) rfl)
theorem wk171 : (.methodLink zR_Lst 76 zy_Dir_serialAt : Cond) ∈ WSg := zi11 _ (List.mem_of_getElem? (l := WS6) (i := 21) rfl)
theorem wk172 : (.instanceMethod zy_Dir_serialAt : Cond) ∈ WSg := zi11 _ (List.mem_of_getElem? (l := WS6) (i := 22) rfl)
theorem wk173 : (.selects zR_Dir zy_Dir_serialAt zy_Dir_serialAt : Cond) ∈ WSg := zi11 _ (List.mem_of_getElem? (l := WS6) (i := 23) rfl)
theorem wk174 : (.methodLink zR_Lst 79 zy_Dir_drop : Cond) ∈ WSg := zi11 _ (List.mem_of_getElem? (l := WS6) (i := 24) rfl)
theorem wk175 : (.instanceMethod zy_Dir_drop : Cond) ∈ WSg := zi12 _ (List.mem_of_getElem? (l := WS7) (i := 0) rfl)
theorem wk176 : (.selects zR_Dir zy_Dir_drop zy_Dir_drop : Cond) ∈ WSg := zi12 _ (List.mem_of_getElem? (l := WS7) (i := 1) rfl)
theorem wk177 : (.code zy_Lst_replace zc_Lst_replace 3 (some .int) : Cond) ∈ WSg := zi12 _ (List.mem_of_getElem? (l := WS7) (i := 2) rfl)
theorem wk178 : (.methodLink zR_Lst 83 zy_Dir_giveTarget : Cond) ∈ WSg := zi12 _ (List.mem_of_getElem? (l := WS7) (i := 3) rfl)
theorem wk179 : (.instanceMethod zy_Dir_giveTarget : Cond) ∈ WSg := zi12 _ (List.mem_of_getElem? (l := WS7) (i := 4) rfl)
theorem wk180 : (.selects zR_Dir zy_Dir_giveTarget zy_Dir_giveTarget : Cond) ∈ WSg := zi12 _ (List.mem_of_getElem? (l := WS7) (i := 5) rfl)
theorem wk181 : (.code zy_Lst_rename zc_Lst_rename 6 (some .int) : Cond) ∈ WSg := zi12 _ (List.mem_of_getElem? (l := WS7) (i := 6) rfl)
theorem wk182 : (.methodLink zR_Lst 87 zy_Dir_indexOfSerial : Cond) ∈ WSg := zi12 _ (List.mem_of_getElem? (l := WS7) (i := 7) rfl)
theorem wk183 : (.instanceMethod zy_Dir_indexOfSerial : Cond) ∈ WSg := zi12 _ (List.mem_of_getElem? (l := WS7) (i := 8) rfl)
theorem wk184 : (.selects zR_Dir zy_Dir_indexOfSerial zy_Dir_indexOfSerial : Cond) ∈ WSg := zi12 _ (List.mem_of_getElem? (l := WS7) (i := 9) rfl)
theorem wk185 : (.classLink zR_Lst 90 "java/util/NoSuchElementException" : Cond) ∈ WSg := zi12 _ (List.mem_of_getElem? (l := WS7) (i := 10) rfl)
theorem wk186 : (.initialized "java/util/NoSuchElementException" : Cond) ∈ WSg := zi12 _ (List.mem_of_getElem? (l := WS7) (i := 11) rfl)
theorem wk187 : (.methodLink zR_Lst 93 zy_Dir_nameAt : Cond) ∈ WSg := zi12 _ (List.mem_of_getElem? (l := WS7) (i := 12) rfl)
theorem wk188 : (.instanceMethod zy_Dir_nameAt : Cond) ∈ WSg := zi12 _ (List.mem_of_getElem? (l := WS7) (i := 13) rfl)
theorem wk189 : (.selects zR_Dir zy_Dir_nameAt zy_Dir_nameAt : Cond) ∈ WSg := zi12 _ (List.mem_of_getElem? (l := WS7) (i := 14) rfl)
theorem wk190 : (.methodLink zR_Lst 97 zy_Dir_giveName : Cond) ∈ WSg := zi12 _ (List.mem_of_getElem? (l := WS7) (i := 15) rfl)
theorem wk191 : (.instanceMethod zy_Dir_giveName : Cond) ∈ WSg := zi12 _ (List.mem_of_getElem? (l := WS7) (i := 16) rfl)
theorem wk192 : (.selects zR_Dir zy_Dir_giveName zy_Dir_giveName : Cond) ∈ WSg := zi12 _ (List.mem_of_getElem? (l := WS7) (i := 17) rfl)
theorem wk193 : (.methodLink zR_Lst 101 zy_Dir_pagesOfNames : Cond) ∈ WSg := zi12 _ (List.mem_of_getElem? (l := WS7) (i := 18) rfl)
theorem wk194 : (.instanceMethod zy_Dir_pagesOfNames : Cond) ∈ WSg := zi12 _ (List.mem_of_getElem? (l := WS7) (i := 19) rfl)
theorem wk195 : (.selects zR_Dir zy_Dir_pagesOfNames zy_Dir_pagesOfNames : Cond) ∈ WSg := zi12 _ (List.mem_of_getElem? (l := WS7) (i := 20) rfl)
theorem wk196 : (.code zy_Lst_find zc_Lst_find 2 (some .int) : Cond) ∈ WSg := zi12 _ (List.mem_of_getElem? (l := WS7) (i := 21) rfl)
theorem wk197 : (.methodLink zR_Lst 105 zy_Dir_targetAt : Cond) ∈ WSg := zi12 _ (List.mem_of_getElem? (l := WS7) (i := 22) rfl)
theorem wk198 : (.instanceMethod zy_Dir_targetAt : Cond) ∈ WSg := zi12 _ (List.mem_of_getElem? (l := WS7) (i := 23) rfl)
theorem wk199 : (.selects zR_Dir zy_Dir_targetAt zy_Dir_targetAt : Cond) ∈ WSg := zi12 _ (List.mem_of_getElem? (l := WS7) (i := 24) rfl)
theorem wk200 : (.code zy_Lst_serial zc_Lst_serial 1 (some .int) : Cond) ∈ WSg := zi13 _ (List.mem_of_getElem? (l := WS8) (i := 0) rfl)
theorem wk201 : (.methodLink zR_Lst 108 zy_Lst_serialAtOrNone : Cond) ∈ WSg := zi13 _ (List.mem_of_getElem? (l := WS8) (i := 1) rfl)
theorem wk202 : (.instanceMethod zy_Lst_serialAtOrNone : Cond) ∈ WSg := zi13 _ (List.mem_of_getElem? (l := WS8) (i := 2) rfl)
theorem wk203 : (.selects zR_Lst zy_Lst_serialAtOrNone zy_Lst_serialAtOrNone : Cond) ∈ WSg := zi13 _ (List.mem_of_getElem? (l := WS8) (i := 3) rfl)
theorem wk204 : (.code zy_Lst_next zc_Lst_next 2 (some .int) : Cond) ∈ WSg := zi13 _ (List.mem_of_getElem? (l := WS8) (i := 4) rfl)
theorem wk205 : (.methodLink zR_Lst 111 zy_Dir_indexAbove : Cond) ∈ WSg := zi13 _ (List.mem_of_getElem? (l := WS8) (i := 5) rfl)
theorem wk206 : (.instanceMethod zy_Dir_indexAbove : Cond) ∈ WSg := zi13 _ (List.mem_of_getElem? (l := WS8) (i := 6) rfl)
theorem wk207 : (.selects zR_Dir zy_Dir_indexAbove zy_Dir_indexAbove : Cond) ∈ WSg := zi13 _ (List.mem_of_getElem? (l := WS8) (i := 7) rfl)
theorem wk208 : (.code zy_Lst_listed zc_Lst_listed 3 (some .int) : Cond) ∈ WSg := zi13 _ (List.mem_of_getElem? (l := WS8) (i := 8) rfl)
theorem wk209 : (.methodLink zR_Lst 114 zy_Row_lengthOf : Cond) ∈ WSg := zi13 _ (List.mem_of_getElem? (l := WS8) (i := 9) rfl)
theorem wk210 : (.methodLink zR_Lst 117 zy_Dir_indexListed : Cond) ∈ WSg := zi13 _ (List.mem_of_getElem? (l := WS8) (i := 10) rfl)
theorem wk211 : (.instanceMethod zy_Dir_indexListed : Cond) ∈ WSg := zi13 _ (List.mem_of_getElem? (l := WS8) (i := 11) rfl)
theorem wk212 : (.selects zR_Dir zy_Dir_indexListed zy_Dir_indexListed : Cond) ∈ WSg := zi13 _ (List.mem_of_getElem? (l := WS8) (i := 12) rfl)
theorem wk213 : (.code zy_Lst_rank zc_Lst_rank 1 (some .int) : Cond) ∈ WSg := zi13 _ (List.mem_of_getElem? (l := WS8) (i := 13) rfl)
theorem wk214 : (.methodLink zR_Lst 121 zy_Dir_namesBefore : Cond) ∈ WSg := zi13 _ (List.mem_of_getElem? (l := WS8) (i := 14) rfl)
theorem wk215 : (.instanceMethod zy_Dir_namesBefore : Cond) ∈ WSg := zi13 _ (List.mem_of_getElem? (l := WS8) (i := 15) rfl)
theorem wk216 : (.selects zR_Dir zy_Dir_namesBefore zy_Dir_namesBefore : Cond) ∈ WSg := zi13 _ (List.mem_of_getElem? (l := WS8) (i := 16) rfl)
theorem wk217 : (.code zy_Lst_found zc_Lst_found 2 (some .long) : Cond) ∈ WSg := zi13 _ (List.mem_of_getElem? (l := WS8) (i := 17) rfl)
theorem wk218 : (.methodLink zR_Lst 124 zy_Row_wordOf : Cond) ∈ WSg := zi13 _ (List.mem_of_getElem? (l := WS8) (i := 18) rfl)
theorem wk219 : (.static zy_Row_wordOf : Cond) ∈ WSg := zi13 _ (List.mem_of_getElem? (l := WS8) (i := 19) rfl)
theorem wk220 : (.code zy_Lst_count zc_Lst_count 1 (some .int) : Cond) ∈ WSg := zi13 _ (List.mem_of_getElem? (l := WS8) (i := 20) rfl)
theorem wk221 : (.methodLink zR_Lst 128 zy_Dir_entries : Cond) ∈ WSg := zi13 _ (List.mem_of_getElem? (l := WS8) (i := 21) rfl)
theorem wk222 : (.instanceMethod zy_Dir_entries : Cond) ∈ WSg := zi13 _ (List.mem_of_getElem? (l := WS8) (i := 22) rfl)
theorem wk223 : (.selects zR_Dir zy_Dir_entries zy_Dir_entries : Cond) ∈ WSg := zi13 _ (List.mem_of_getElem? (l := WS8) (i := 23) rfl)
theorem wk224 : (.code zy_Lst_free zc_Lst_free 1 (some .int) : Cond) ∈ WSg := zi13 _ (List.mem_of_getElem? (l := WS8) (i := 24) rfl)
theorem wk225 : (.methodLink zR_Lst 132 zy_Dir_freePages : Cond) ∈ WSg := zi14 _ (List.mem_of_getElem? (l := WS9) (i := 0) rfl)
theorem wk226 : (.instanceMethod zy_Dir_freePages : Cond) ∈ WSg := zi14 _ (List.mem_of_getElem? (l := WS9) (i := 1) rfl)
theorem wk227 : (.selects zR_Dir zy_Dir_freePages zy_Dir_freePages : Cond) ∈ WSg := zi14 _ (List.mem_of_getElem? (l := WS9) (i := 2) rfl)
theorem wk228 : (.code zy_Lst_writes zc_Lst_writes 1 (some .int) : Cond) ∈ WSg := zi14 _ (List.mem_of_getElem? (l := WS9) (i := 3) rfl)
theorem wk229 : (.code zy_Lst_failAfter zc_Lst_failAfter 2 none : Cond) ∈ WSg := zi14 _ (List.mem_of_getElem? (l := WS9) (i := 4) rfl)
theorem wk230 : (.methodLink zR_Lst 135 zy_Pow_allow : Cond) ∈ WSg := zi14 _ (List.mem_of_getElem? (l := WS9) (i := 5) rfl)
theorem wk231 : (.instanceMethod zy_Pow_allow : Cond) ∈ WSg := zi14 _ (List.mem_of_getElem? (l := WS9) (i := 6) rfl)
theorem wk232 : (.selects zR_Pow zy_Pow_allow zy_Pow_allow : Cond) ∈ WSg := zi14 _ (List.mem_of_getElem? (l := WS9) (i := 7) rfl)
theorem wk233 : (.code zy_Lst_start zc_Lst_start 1 (some .boolean) : Cond) ∈ WSg := zi14 _ (List.mem_of_getElem? (l := WS9) (i := 8) rfl)
theorem wk234 : (.methodLink zR_Lst 138 zy_Pow_isSupplied : Cond) ∈ WSg := zi14 _ (List.mem_of_getElem? (l := WS9) (i := 9) rfl)
theorem wk235 : (.instanceMethod zy_Pow_isSupplied : Cond) ∈ WSg := zi14 _ (List.mem_of_getElem? (l := WS9) (i := 10) rfl)
theorem wk236 : (.selects zR_Pow zy_Pow_isSupplied zy_Pow_isSupplied : Cond) ∈ WSg := zi14 _ (List.mem_of_getElem? (l := WS9) (i := 11) rfl)
theorem wk237 : (.methodLink zR_Lst 141 zy_Pow_restore : Cond) ∈ WSg := zi14 _ (List.mem_of_getElem? (l := WS9) (i := 12) rfl)
theorem wk238 : (.instanceMethod zy_Pow_restore : Cond) ∈ WSg := zi14 _ (List.mem_of_getElem? (l := WS9) (i := 13) rfl)
theorem wk239 : (.selects zR_Pow zy_Pow_restore zy_Pow_restore : Cond) ∈ WSg := zi14 _ (List.mem_of_getElem? (l := WS9) (i := 14) rfl)
theorem wk240 : (.code zy_Lst_isOn zc_Lst_isOn 1 (some .boolean) : Cond) ∈ WSg := zi14 _ (List.mem_of_getElem? (l := WS9) (i := 15) rfl)
theorem wk241 : (.code zy_Lst_requirePower zc_Lst_requirePower 1 none : Cond) ∈ WSg := zi14 _ (List.mem_of_getElem? (l := WS9) (i := 16) rfl)
theorem wk242 : (.classLink zR_Lst 144 "java/lang/IllegalStateException" : Cond) ∈ WSg := zi14 _ (List.mem_of_getElem? (l := WS9) (i := 17) rfl)
theorem wk243 : (.initialized "java/lang/IllegalStateException" : Cond) ∈ WSg := zi14 _ (List.mem_of_getElem? (l := WS9) (i := 18) rfl)
theorem wk244 : (.code zy_Lst_serialAtOrNone zc_Lst_serialAtOrNone 2 (some .int) : Cond) ∈ WSg := zi14 _ (List.mem_of_getElem? (l := WS9) (i := 19) rfl)
theorem wk245 : (.code zy_Lst_carryOut zc_Lst_carryOut 4 (some .int) : Cond) ∈ WSg := zi14 _ (List.mem_of_getElem? (l := WS9) (i := 20) rfl)
theorem wk246 : (.methodLink zR_Lst 147 zy_Pow_write : Cond) ∈ WSg := zi14 _ (List.mem_of_getElem? (l := WS9) (i := 21) rfl)
theorem wk247 : (.instanceMethod zy_Pow_write : Cond) ∈ WSg := zi14 _ (List.mem_of_getElem? (l := WS9) (i := 22) rfl)
theorem wk248 : (.selects zR_Pow zy_Pow_write zy_Pow_write : Cond) ∈ WSg := zi14 _ (List.mem_of_getElem? (l := WS9) (i := 23) rfl)
theorem wk249 : (.methodLink zR_Law 7 zy_Lst_name : Cond) ∈ WSg := zi14 _ (List.mem_of_getElem? (l := WS9) (i := 24) rfl)
theorem wk250 : (.instanceMethod zy_Lst_name : Cond) ∈ WSg := zi15 _ (List.mem_of_getElem? (l := WS10) (i := 0) rfl)
theorem wk251 : (.selects zR_Lst zy_Lst_name zy_Lst_name : Cond) ∈ WSg := zi15 _ (List.mem_of_getElem? (l := WS10) (i := 1) rfl)
theorem wk252 : (.methodLink zR_Law 15 zy_Lst_add : Cond) ∈ WSg := zi15 _ (List.mem_of_getElem? (l := WS10) (i := 2) rfl)
theorem wk253 : (.instanceMethod zy_Lst_add : Cond) ∈ WSg := zi15 _ (List.mem_of_getElem? (l := WS10) (i := 3) rfl)
theorem wk254 : (.selects zR_Lst zy_Lst_add zy_Lst_add : Cond) ∈ WSg := zi15 _ (List.mem_of_getElem? (l := WS10) (i := 4) rfl)
theorem wk255 : (.methodLink zR_Law 21 zy_Lst_remove : Cond) ∈ WSg := zi15 _ (List.mem_of_getElem? (l := WS10) (i := 5) rfl)
theorem wk256 : (.instanceMethod zy_Lst_remove : Cond) ∈ WSg := zi15 _ (List.mem_of_getElem? (l := WS10) (i := 6) rfl)
theorem wk257 : (.selects zR_Lst zy_Lst_remove zy_Lst_remove : Cond) ∈ WSg := zi15 _ (List.mem_of_getElem? (l := WS10) (i := 7) rfl)
theorem wk258 : (.methodLink zR_Law 25 zy_Lst_replace : Cond) ∈ WSg := zi15 _ (List.mem_of_getElem? (l := WS10) (i := 8) rfl)
theorem wk259 : (.instanceMethod zy_Lst_replace : Cond) ∈ WSg := zi15 _ (List.mem_of_getElem? (l := WS10) (i := 9) rfl)
theorem wk260 : (.selects zR_Lst zy_Lst_replace zy_Lst_replace : Cond) ∈ WSg := zi15 _ (List.mem_of_getElem? (l := WS10) (i := 10) rfl)
theorem wk261 : (.methodLink zR_Law 28 zy_Lst_rename : Cond) ∈ WSg := zi15 _ (List.mem_of_getElem? (l := WS10) (i := 11) rfl)
theorem wk262 : (.instanceMethod zy_Lst_rename : Cond) ∈ WSg := zi15 _ (List.mem_of_getElem? (l := WS10) (i := 12) rfl)
theorem wk263 : (.selects zR_Lst zy_Lst_rename zy_Lst_rename : Cond) ∈ WSg := zi15 _ (List.mem_of_getElem? (l := WS10) (i := 13) rfl)
theorem wk264 : (.methodLink zR_Law 33 zy_Lst_find : Cond) ∈ WSg := zi15 _ (List.mem_of_getElem? (l := WS10) (i := 14) rfl)
theorem wk265 : (.instanceMethod zy_Lst_find : Cond) ∈ WSg := zi15 _ (List.mem_of_getElem? (l := WS10) (i := 15) rfl)
theorem wk266 : (.selects zR_Lst zy_Lst_find zy_Lst_find : Cond) ∈ WSg := zi15 _ (List.mem_of_getElem? (l := WS10) (i := 16) rfl)
theorem wk267 : (.methodLink zR_Law 36 zy_Lst_serial : Cond) ∈ WSg := zi15 _ (List.mem_of_getElem? (l := WS10) (i := 17) rfl)
theorem wk268 : (.instanceMethod zy_Lst_serial : Cond) ∈ WSg := zi15 _ (List.mem_of_getElem? (l := WS10) (i := 18) rfl)
theorem wk269 : (.selects zR_Lst zy_Lst_serial zy_Lst_serial : Cond) ∈ WSg := zi15 _ (List.mem_of_getElem? (l := WS10) (i := 19) rfl)
theorem wk270 : (.methodLink zR_Law 39 zy_Lst_next : Cond) ∈ WSg := zi15 _ (List.mem_of_getElem? (l := WS10) (i := 20) rfl)
theorem wk271 : (.instanceMethod zy_Lst_next : Cond) ∈ WSg := zi15 _ (List.mem_of_getElem? (l := WS10) (i := 21) rfl)
theorem wk272 : (.selects zR_Lst zy_Lst_next zy_Lst_next : Cond) ∈ WSg := zi15 _ (List.mem_of_getElem? (l := WS10) (i := 22) rfl)
theorem wk273 : (.methodLink zR_Law 42 zy_Lst_listed : Cond) ∈ WSg := zi15 _ (List.mem_of_getElem? (l := WS10) (i := 23) rfl)
theorem wk274 : (.instanceMethod zy_Lst_listed : Cond) ∈ WSg := zi15 _ (List.mem_of_getElem? (l := WS10) (i := 24) rfl)
theorem wk275 : (.selects zR_Lst zy_Lst_listed zy_Lst_listed : Cond) ∈ WSg := zi16 _ (List.mem_of_getElem? (l := WS11) (i := 0) rfl)
theorem wk276 : (.methodLink zR_Law 46 zy_Lst_rank : Cond) ∈ WSg := zi16 _ (List.mem_of_getElem? (l := WS11) (i := 1) rfl)
theorem wk277 : (.instanceMethod zy_Lst_rank : Cond) ∈ WSg := zi16 _ (List.mem_of_getElem? (l := WS11) (i := 2) rfl)
theorem wk278 : (.selects zR_Lst zy_Lst_rank zy_Lst_rank : Cond) ∈ WSg := zi16 _ (List.mem_of_getElem? (l := WS11) (i := 3) rfl)
theorem wk279 : (.methodLink zR_Law 49 zy_Lst_found : Cond) ∈ WSg := zi16 _ (List.mem_of_getElem? (l := WS11) (i := 4) rfl)
theorem wk280 : (.instanceMethod zy_Lst_found : Cond) ∈ WSg := zi16 _ (List.mem_of_getElem? (l := WS11) (i := 5) rfl)
theorem wk281 : (.selects zR_Lst zy_Lst_found zy_Lst_found : Cond) ∈ WSg := zi16 _ (List.mem_of_getElem? (l := WS11) (i := 6) rfl)
theorem wk282 : (.methodLink zR_Law 53 zy_Lst_count : Cond) ∈ WSg := zi16 _ (List.mem_of_getElem? (l := WS11) (i := 7) rfl)
theorem wk283 : (.instanceMethod zy_Lst_count : Cond) ∈ WSg := zi16 _ (List.mem_of_getElem? (l := WS11) (i := 8) rfl)
theorem wk284 : (.selects zR_Lst zy_Lst_count zy_Lst_count : Cond) ∈ WSg := zi16 _ (List.mem_of_getElem? (l := WS11) (i := 9) rfl)
theorem wk285 : (.methodLink zR_Law 56 zy_Lst_free : Cond) ∈ WSg := zi16 _ (List.mem_of_getElem? (l := WS11) (i := 10) rfl)
theorem wk286 : (.instanceMethod zy_Lst_free : Cond) ∈ WSg := zi16 _ (List.mem_of_getElem? (l := WS11) (i := 11) rfl)
theorem wk287 : (.selects zR_Lst zy_Lst_free zy_Lst_free : Cond) ∈ WSg := zi16 _ (List.mem_of_getElem? (l := WS11) (i := 12) rfl)
theorem wk288 : (.methodLink zR_Law 59 zy_Lst_failAfter : Cond) ∈ WSg := zi16 _ (List.mem_of_getElem? (l := WS11) (i := 13) rfl)
theorem wk289 : (.instanceMethod zy_Lst_failAfter : Cond) ∈ WSg := zi16 _ (List.mem_of_getElem? (l := WS11) (i := 14) rfl)
theorem wk290 : (.selects zR_Lst zy_Lst_failAfter zy_Lst_failAfter : Cond) ∈ WSg := zi16 _ (List.mem_of_getElem? (l := WS11) (i := 15) rfl)
theorem wk291 : (.code zy_Law_law zc_Law_law 8 (some .boolean) : Cond) ∈ WSg := zi16 _ (List.mem_of_getElem? (l := WS11) (i := 16) rfl)
theorem wk292 : (.classLink zR_Law 8 zR_Lst : Cond) ∈ WSg := zi16 _ (List.mem_of_getElem? (l := WS11) (i := 17) rfl)
theorem wk293 : (.instantiable zR_Lst 6 : Cond) ∈ WSg := zi16 _ (List.mem_of_getElem? (l := WS11) (i := 18) rfl)
theorem wk294 : (.methodLink zR_Law 63 zy_Lst_init : Cond) ∈ WSg := zi16 _ (List.mem_of_getElem? (l := WS11) (i := 19) rfl)
theorem wk295 : (.instanceMethod zy_Lst_init : Cond) ∈ WSg := zi16 _ (List.mem_of_getElem? (l := WS11) (i := 20) rfl)
theorem wk296 : (.classLink zR_Law 64 zR_Mod : Cond) ∈ WSg := zi16 _ (List.mem_of_getElem? (l := WS11) (i := 21) rfl)
theorem wk297 : (.instantiable zR_Mod 19 : Cond) ∈ WSg := zi16 _ (List.mem_of_getElem? (l := WS11) (i := 22) rfl)
theorem wk298 : (.initialized zR_Mod : Cond) ∈ WSg := zi16 _ (List.mem_of_getElem? (l := WS11) (i := 23) rfl)
theorem wk299 : (.methodLink zR_Law 66 zy_Mod_init : Cond) ∈ WSg := zi16 _ (List.mem_of_getElem? (l := WS11) (i := 24) rfl)
theorem wk300 : (.instanceMethod zy_Mod_init : Cond) ∈ WSg := zi17 _ (List.mem_of_getElem? (l := WS12) (i := 0) rfl)
theorem wk301 : (.constantLong zR_Law 67 4294967295 : Cond) ∈ WSg := zi17 _ (List.mem_of_getElem? (l := WS12) (i := 1) rfl)
theorem wk302 : (.methodLink zR_Law 69 zy_Law_name : Cond) ∈ WSg := zi17 _ (List.mem_of_getElem? (l := WS12) (i := 2) rfl)
theorem wk303 : (.initialized zR_Law : Cond) ∈ WSg := zi17 _ (List.mem_of_getElem? (l := WS12) (i := 3) rfl)
theorem wk304 : (.static zy_Law_name : Cond) ∈ WSg := zi17 _ (List.mem_of_getElem? (l := WS12) (i := 4) rfl)
theorem wk305 : (.methodLink zR_Law 74 zy_Mod_name : Cond) ∈ WSg := zi17 _ (List.mem_of_getElem? (l := WS12) (i := 5) rfl)
theorem wk306 : (.instanceMethod zy_Mod_name : Cond) ∈ WSg := zi17 _ (List.mem_of_getElem? (l := WS12) (i := 6) rfl)
theorem wk307 : (.selects zR_Mod zy_Mod_name zy_Mod_name : Cond) ∈ WSg := zi17 _ (List.mem_of_getElem? (l := WS12) (i := 7) rfl)
theorem wk308 : (.methodLink zR_Law 75 zy_Mod_thrown : Cond) ∈ WSg := zi17 _ (List.mem_of_getElem? (l := WS12) (i := 8) rfl)
theorem wk309 : (.instanceMethod zy_Mod_thrown : Cond) ∈ WSg := zi17 _ (List.mem_of_getElem? (l := WS12) (i := 9) rfl)
theorem wk310 : (.selects zR_Mod zy_Mod_thrown zy_Mod_thrown : Cond) ∈ WSg := zi17 _ (List.mem_of_getElem? (l := WS12) (i := 10) rfl)
theorem wk311 : (.methodLink zR_Law 78 zy_Law_add : Cond) ∈ WSg := zi17 _ (List.mem_of_getElem? (l := WS12) (i := 11) rfl)
theorem wk312 : (.static zy_Law_add : Cond) ∈ WSg := zi17 _ (List.mem_of_getElem? (l := WS12) (i := 12) rfl)
theorem wk313 : (.methodLink zR_Law 81 zy_Mod_add : Cond) ∈ WSg := zi17 _ (List.mem_of_getElem? (l := WS12) (i := 13) rfl)
theorem wk314 : (.instanceMethod zy_Mod_add : Cond) ∈ WSg := zi17 _ (List.mem_of_getElem? (l := WS12) (i := 14) rfl)
theorem wk315 : (.selects zR_Mod zy_Mod_add zy_Mod_add : Cond) ∈ WSg := zi17 _ (List.mem_of_getElem? (l := WS12) (i := 15) rfl)
theorem wk316 : (.methodLink zR_Law 82 zy_Law_remove : Cond) ∈ WSg := zi17 _ (List.mem_of_getElem? (l := WS12) (i := 16) rfl)
theorem wk317 : (.static zy_Law_remove : Cond) ∈ WSg := zi17 _ (List.mem_of_getElem? (l := WS12) (i := 17) rfl)
theorem wk318 : (.methodLink zR_Law 85 zy_Mod_remove : Cond) ∈ WSg := zi17 _ (List.mem_of_getElem? (l := WS12) (i := 18) rfl)
theorem wk319 : (.instanceMethod zy_Mod_remove : Cond) ∈ WSg := zi17 _ (List.mem_of_getElem? (l := WS12) (i := 19) rfl)
theorem wk320 : (.selects zR_Mod zy_Mod_remove zy_Mod_remove : Cond) ∈ WSg := zi17 _ (List.mem_of_getElem? (l := WS12) (i := 20) rfl)
theorem wk321 : (.methodLink zR_Law 86 zy_Law_replace : Cond) ∈ WSg := zi17 _ (List.mem_of_getElem? (l := WS12) (i := 21) rfl)
theorem wk322 : (.static zy_Law_replace : Cond) ∈ WSg := zi17 _ (List.mem_of_getElem? (l := WS12) (i := 22) rfl)
theorem wk323 : (.methodLink zR_Law 88 zy_Mod_replace : Cond) ∈ WSg := zi17 _ (List.mem_of_getElem? (l := WS12) (i := 23) rfl)
theorem wk324 : (.instanceMethod zy_Mod_replace : Cond) ∈ WSg := zi17 _ (List.mem_of_getElem? (l := WS12) (i := 24) rfl)
theorem wk325 : (.selects zR_Mod zy_Mod_replace zy_Mod_replace : Cond) ∈ WSg := zi18 _ (List.mem_of_getElem? (l := WS13) (i := 0) rfl)
theorem wk326 : (.methodLink zR_Law 89 zy_Law_rename : Cond) ∈ WSg := zi18 _ (List.mem_of_getElem? (l := WS13) (i := 1) rfl)
theorem wk327 : (.static zy_Law_rename : Cond) ∈ WSg := zi18 _ (List.mem_of_getElem? (l := WS13) (i := 2) rfl)
theorem wk328 : (.methodLink zR_Law 91 zy_Mod_rename : Cond) ∈ WSg := zi18 _ (List.mem_of_getElem? (l := WS13) (i := 3) rfl)
theorem wk329 : (.instanceMethod zy_Mod_rename : Cond) ∈ WSg := zi18 _ (List.mem_of_getElem? (l := WS13) (i := 4) rfl)
theorem wk330 : (.selects zR_Mod zy_Mod_rename zy_Mod_rename : Cond) ∈ WSg := zi18 _ (List.mem_of_getElem? (l := WS13) (i := 5) rfl)
theorem wk331 : (.methodLink zR_Law 92 zy_Law_find : Cond) ∈ WSg := zi18 _ (List.mem_of_getElem? (l := WS13) (i := 6) rfl)
theorem wk332 : (.static zy_Law_find : Cond) ∈ WSg := zi18 _ (List.mem_of_getElem? (l := WS13) (i := 7) rfl)
theorem wk333 : (.methodLink zR_Law 94 zy_Mod_find : Cond) ∈ WSg := zi18 _ (List.mem_of_getElem? (l := WS13) (i := 8) rfl)
theorem wk334 : (.instanceMethod zy_Mod_find : Cond) ∈ WSg := zi18 _ (List.mem_of_getElem? (l := WS13) (i := 9) rfl)
theorem wk335 : (.selects zR_Mod zy_Mod_find zy_Mod_find : Cond) ∈ WSg := zi18 _ (List.mem_of_getElem? (l := WS13) (i := 10) rfl)
theorem wk336 : (.methodLink zR_Law 95 zy_Law_serial : Cond) ∈ WSg := zi18 _ (List.mem_of_getElem? (l := WS13) (i := 11) rfl)
theorem wk337 : (.static zy_Law_serial : Cond) ∈ WSg := zi18 _ (List.mem_of_getElem? (l := WS13) (i := 12) rfl)
theorem wk338 : (.methodLink zR_Law 97 zy_Mod_serial : Cond) ∈ WSg := zi18 _ (List.mem_of_getElem? (l := WS13) (i := 13) rfl)
theorem wk339 : (.instanceMethod zy_Mod_serial : Cond) ∈ WSg := zi18 _ (List.mem_of_getElem? (l := WS13) (i := 14) rfl)
theorem wk340 : (.selects zR_Mod zy_Mod_serial zy_Mod_serial : Cond) ∈ WSg := zi18 _ (List.mem_of_getElem? (l := WS13) (i := 15) rfl)
theorem wk341 : (.methodLink zR_Law 98 zy_Law_next : Cond) ∈ WSg := zi18 _ (List.mem_of_getElem? (l := WS13) (i := 16) rfl)
theorem wk342 : (.static zy_Law_next : Cond) ∈ WSg := zi18 _ (List.mem_of_getElem? (l := WS13) (i := 17) rfl)
theorem wk343 : (.methodLink zR_Law 100 zy_Mod_next : Cond) ∈ WSg := zi18 _ (List.mem_of_getElem? (l := WS13) (i := 18) rfl)
theorem wk344 : (.instanceMethod zy_Mod_next : Cond) ∈ WSg := zi18 _ (List.mem_of_getElem? (l := WS13) (i := 19) rfl)
theorem wk345 : (.selects zR_Mod zy_Mod_next zy_Mod_next : Cond) ∈ WSg := zi18 _ (List.mem_of_getElem? (l := WS13) (i := 20) rfl)
theorem wk346 : (.methodLink zR_Law 101 zy_Law_listed : Cond) ∈ WSg := zi18 _ (List.mem_of_getElem? (l := WS13) (i := 21) rfl)
theorem wk347 : (.static zy_Law_listed : Cond) ∈ WSg := zi18 _ (List.mem_of_getElem? (l := WS13) (i := 22) rfl)
theorem wk348 : (.methodLink zR_Law 104 zy_Mod_listed : Cond) ∈ WSg := zi18 _ (List.mem_of_getElem? (l := WS13) (i := 23) rfl)
theorem wk349 : (.instanceMethod zy_Mod_listed : Cond) ∈ WSg := zi18 _ (List.mem_of_getElem? (l := WS13) (i := 24) rfl)
theorem wk350 : (.selects zR_Mod zy_Mod_listed zy_Mod_listed : Cond) ∈ WSg := zi19 _ (List.mem_of_getElem? (l := WS14) (i := 0) rfl)
theorem wk351 : (.methodLink zR_Law 105 zy_Law_rank : Cond) ∈ WSg := zi19 _ (List.mem_of_getElem? (l := WS14) (i := 1) rfl)
theorem wk352 : (.static zy_Law_rank : Cond) ∈ WSg := zi19 _ (List.mem_of_getElem? (l := WS14) (i := 2) rfl)
theorem wk353 : (.methodLink zR_Law 107 zy_Mod_rank : Cond) ∈ WSg := zi19 _ (List.mem_of_getElem? (l := WS14) (i := 3) rfl)
theorem wk354 : (.instanceMethod zy_Mod_rank : Cond) ∈ WSg := zi19 _ (List.mem_of_getElem? (l := WS14) (i := 4) rfl)
theorem wk355 : (.selects zR_Mod zy_Mod_rank zy_Mod_rank : Cond) ∈ WSg := zi19 _ (List.mem_of_getElem? (l := WS14) (i := 5) rfl)
theorem wk356 : (.methodLink zR_Law 108 zy_Law_found : Cond) ∈ WSg := zi19 _ (List.mem_of_getElem? (l := WS14) (i := 6) rfl)
theorem wk357 : (.static zy_Law_found : Cond) ∈ WSg := zi19 _ (List.mem_of_getElem? (l := WS14) (i := 7) rfl)
theorem wk358 : (.methodLink zR_Law 110 zy_Mod_found : Cond) ∈ WSg := zi19 _ (List.mem_of_getElem? (l := WS14) (i := 8) rfl)
theorem wk359 : (.instanceMethod zy_Mod_found : Cond) ∈ WSg := zi19 _ (List.mem_of_getElem? (l := WS14) (i := 9) rfl)
theorem wk360 : (.selects zR_Mod zy_Mod_found zy_Mod_found : Cond) ∈ WSg := zi19 _ (List.mem_of_getElem? (l := WS14) (i := 10) rfl)
theorem wk361 : (.methodLink zR_Law 111 zy_Law_count : Cond) ∈ WSg := zi19 _ (List.mem_of_getElem? (l := WS14) (i := 11) rfl)
theorem wk362 : (.static zy_Law_count : Cond) ∈ WSg := zi19 _ (List.mem_of_getElem? (l := WS14) (i := 12) rfl)
theorem wk363 : (.methodLink zR_Law 113 zy_Mod_count : Cond) ∈ WSg := zi19 _ (List.mem_of_getElem? (l := WS14) (i := 13) rfl)
theorem wk364 : (.instanceMethod zy_Mod_count : Cond) ∈ WSg := zi19 _ (List.mem_of_getElem? (l := WS14) (i := 14) rfl)
theorem wk365 : (.selects zR_Mod zy_Mod_count zy_Mod_count : Cond) ∈ WSg := zi19 _ (List.mem_of_getElem? (l := WS14) (i := 15) rfl)
theorem wk366 : (.methodLink zR_Law 114 zy_Law_free : Cond) ∈ WSg := zi19 _ (List.mem_of_getElem? (l := WS14) (i := 16) rfl)
theorem wk367 : (.static zy_Law_free : Cond) ∈ WSg := zi19 _ (List.mem_of_getElem? (l := WS14) (i := 17) rfl)
theorem wk368 : (.methodLink zR_Law 116 zy_Mod_free : Cond) ∈ WSg := zi19 _ (List.mem_of_getElem? (l := WS14) (i := 18) rfl)
theorem wk369 : (.instanceMethod zy_Mod_free : Cond) ∈ WSg := zi19 _ (List.mem_of_getElem? (l := WS14) (i := 19) rfl)
theorem wk370 : (.selects zR_Mod zy_Mod_free zy_Mod_free : Cond) ∈ WSg := zi19 _ (List.mem_of_getElem? (l := WS14) (i := 20) rfl)
theorem wk371 : (.methodLink zR_Law 117 zy_Lst_writes : Cond) ∈ WSg := zi19 _ (List.mem_of_getElem? (l := WS14) (i := 21) rfl)
theorem wk372 : (.instanceMethod zy_Lst_writes : Cond) ∈ WSg := zi19 _ (List.mem_of_getElem? (l := WS14) (i := 22) rfl)
theorem wk373 : (.selects zR_Lst zy_Lst_writes zy_Lst_writes : Cond) ∈ WSg := zi19 _ (List.mem_of_getElem? (l := WS14) (i := 23) rfl)
theorem wk374 : (.methodLink zR_Law 120 zy_Mod_writes : Cond) ∈ WSg := zi19 _ (List.mem_of_getElem? (l := WS14) (i := 24) rfl)
theorem wk375 : (.instanceMethod zy_Mod_writes : Cond) ∈ WSg := zi20 _ (List.mem_of_getElem? (l := WS15) (i := 0) rfl)
theorem wk376 : (.selects zR_Mod zy_Mod_writes zy_Mod_writes : Cond) ∈ WSg := zi20 _ (List.mem_of_getElem? (l := WS15) (i := 1) rfl)
theorem wk377 : (.methodLink zR_Law 121 zy_Law_failAfter : Cond) ∈ WSg := zi20 _ (List.mem_of_getElem? (l := WS15) (i := 2) rfl)
theorem wk378 : (.static zy_Law_failAfter : Cond) ∈ WSg := zi20 _ (List.mem_of_getElem? (l := WS15) (i := 3) rfl)
theorem wk379 : (.methodLink zR_Law 124 zy_Mod_failAfter : Cond) ∈ WSg := zi20 _ (List.mem_of_getElem? (l := WS15) (i := 4) rfl)
theorem wk380 : (.instanceMethod zy_Mod_failAfter : Cond) ∈ WSg := zi20 _ (List.mem_of_getElem? (l := WS15) (i := 5) rfl)
theorem wk381 : (.selects zR_Mod zy_Mod_failAfter zy_Mod_failAfter : Cond) ∈ WSg := zi20 _ (List.mem_of_getElem? (l := WS15) (i := 6) rfl)
theorem wk382 : (.methodLink zR_Law 125 zy_Lst_start : Cond) ∈ WSg := zi20 _ (List.mem_of_getElem? (l := WS15) (i := 7) rfl)
theorem wk383 : (.instanceMethod zy_Lst_start : Cond) ∈ WSg := zi20 _ (List.mem_of_getElem? (l := WS15) (i := 8) rfl)
theorem wk384 : (.selects zR_Lst zy_Lst_start zy_Lst_start : Cond) ∈ WSg := zi20 _ (List.mem_of_getElem? (l := WS15) (i := 9) rfl)
theorem wk385 : (.methodLink zR_Law 129 zy_Mod_start : Cond) ∈ WSg := zi20 _ (List.mem_of_getElem? (l := WS15) (i := 10) rfl)
theorem wk386 : (.instanceMethod zy_Mod_start : Cond) ∈ WSg := zi20 _ (List.mem_of_getElem? (l := WS15) (i := 11) rfl)
theorem wk387 : (.selects zR_Mod zy_Mod_start zy_Mod_start : Cond) ∈ WSg := zi20 _ (List.mem_of_getElem? (l := WS15) (i := 12) rfl)
theorem wk388 : (.methodLink zR_Law 130 zy_Lst_isOn : Cond) ∈ WSg := zi20 _ (List.mem_of_getElem? (l := WS15) (i := 13) rfl)
theorem wk389 : (.instanceMethod zy_Lst_isOn : Cond) ∈ WSg := zi20 _ (List.mem_of_getElem? (l := WS15) (i := 14) rfl)
theorem wk390 : (.selects zR_Lst zy_Lst_isOn zy_Lst_isOn : Cond) ∈ WSg := zi20 _ (List.mem_of_getElem? (l := WS15) (i := 15) rfl)
theorem wk391 : (.methodLink zR_Law 133 zy_Mod_isOn : Cond) ∈ WSg := zi20 _ (List.mem_of_getElem? (l := WS15) (i := 16) rfl)
theorem wk392 : (.instanceMethod zy_Mod_isOn : Cond) ∈ WSg := zi20 _ (List.mem_of_getElem? (l := WS15) (i := 17) rfl)
theorem wk393 : (.selects zR_Mod zy_Mod_isOn zy_Mod_isOn : Cond) ∈ WSg := zi20 _ (List.mem_of_getElem? (l := WS15) (i := 18) rfl)
theorem wk394 : (.code zy_Mod_init zc_Mod_init 1 none : Cond) ∈ WSg := zi20 _ (List.mem_of_getElem? (l := WS15) (i := 19) rfl)
theorem wk395 : (.methodLink zR_Mod 1 Lib.objectInit : Cond) ∈ WSg := zi20 _ (List.mem_of_getElem? (l := WS15) (i := 20) rfl)
theorem wk396 : (.fieldLink zR_Mod 7 zR_Mod "names" "[J" : Cond) ∈ WSg := zi20 _ (List.mem_of_getElem? (l := WS15) (i := 21) rfl)
theorem wk397 : (.fieldLink zR_Mod 13 zR_Mod "lengths" "[I" : Cond) ∈ WSg := zi20 _ (List.mem_of_getElem? (l := WS15) (i := 22) rfl)
theorem wk398 : (.fieldLink zR_Mod 17 zR_Mod "serials" "[I" : Cond) ∈ WSg := zi20 _ (List.mem_of_getElem? (l := WS15) (i := 23) rfl)
theorem wk399 : (.fieldLink zR_Mod 20 zR_Mod "targets" "[I" : Cond) ∈ WSg := zi20 _ (List.mem_of_getElem? (l := WS15) (i := 24) rfl)
theorem wk400 : (.constantLong zR_Mod 23 65 : Cond) ∈ WSg := zi21 _ (List.mem_of_getElem? (l := WS16) (i := 0) rfl)
theorem wk401 : (.fieldLink zR_Mod 25 zR_Mod "hand" "J" : Cond) ∈ WSg := zi21 _ (List.mem_of_getElem? (l := WS16) (i := 1) rfl)
theorem wk402 : (.fieldLink zR_Mod 29 zR_Mod "handLength" "I" : Cond) ∈ WSg := zi21 _ (List.mem_of_getElem? (l := WS16) (i := 2) rfl)
theorem wk403 : (.fieldLink zR_Mod 33 zR_Mod "rowBytes" "[J" : Cond) ∈ WSg := zi21 _ (List.mem_of_getElem? (l := WS16) (i := 3) rfl)
theorem wk404 : (.fieldLink zR_Mod 36 zR_Mod "rowLengths" "[I" : Cond) ∈ WSg := zi21 _ (List.mem_of_getElem? (l := WS16) (i := 4) rfl)
theorem wk405 : (.fieldLink zR_Mod 39 zR_Mod "placeBytes" "[J" : Cond) ∈ WSg := zi21 _ (List.mem_of_getElem? (l := WS16) (i := 5) rfl)
theorem wk406 : (.fieldLink zR_Mod 42 zR_Mod "placeLengths" "[I" : Cond) ∈ WSg := zi21 _ (List.mem_of_getElem? (l := WS16) (i := 6) rfl)
theorem wk407 : (.fieldLink zR_Mod 45 zR_Mod "left" "I" : Cond) ∈ WSg := zi21 _ (List.mem_of_getElem? (l := WS16) (i := 7) rfl)
theorem wk408 : (.fieldLink zR_Mod 48 zR_Mod "count" "I" : Cond) ∈ WSg := zi21 _ (List.mem_of_getElem? (l := WS16) (i := 8) rfl)
theorem wk409 : (.code zy_Mod_thrown zc_Mod_thrown 1 (some .int) : Cond) ∈ WSg := zi21 _ (List.mem_of_getElem? (l := WS16) (i := 9) rfl)
theorem wk410 : (.fieldLink zR_Mod 51 zR_Mod "thrown" "I" : Cond) ∈ WSg := zi21 _ (List.mem_of_getElem? (l := WS16) (i := 10) rfl)
theorem wk411 : (.code zy_Mod_name zc_Mod_name 7 none : Cond) ∈ WSg := zi21 _ (List.mem_of_getElem? (l := WS16) (i := 11) rfl)
theorem wk412 : (.constantLong zR_Mod 54 255 : Cond) ∈ WSg := zi21 _ (List.mem_of_getElem? (l := WS16) (i := 12) rfl)
theorem wk413 : (.constantLong zR_Mod 56 47 : Cond) ∈ WSg := zi21 _ (List.mem_of_getElem? (l := WS16) (i := 13) rfl)
theorem wk414 : (.methodLink zR_Mod 58 zy_Mod_firstOf : Cond) ∈ WSg := zi21 _ (List.mem_of_getElem? (l := WS16) (i := 14) rfl)
theorem wk415 : (.static zy_Mod_firstOf : Cond) ∈ WSg := zi21 _ (List.mem_of_getElem? (l := WS16) (i := 15) rfl)
theorem wk416 : (.code zy_Mod_firstOf zc_Mod_firstOf 3 (some .long) : Cond) ∈ WSg := zi21 _ (List.mem_of_getElem? (l := WS16) (i := 16) rfl)
theorem wk417 : (.code zy_Mod_begins zc_Mod_begins 6 (some .boolean) : Cond) ∈ WSg := zi21 _ (List.mem_of_getElem? (l := WS16) (i := 17) rfl)
theorem wk418 : (.code zy_Mod_common zc_Mod_common 7 (some .int) : Cond) ∈ WSg := zi21 _ (List.mem_of_getElem? (l := WS16) (i := 18) rfl)
theorem wk419 : (.code zy_Mod_isBefore zc_Mod_isBefore 7 (some .boolean) : Cond) ∈ WSg := zi21 _ (List.mem_of_getElem? (l := WS16) (i := 19) rfl)
theorem wk420 : (.methodLink zR_Mod 62 zy_Mod_common : Cond) ∈ WSg := zi21 _ (List.mem_of_getElem? (l := WS16) (i := 20) rfl)
theorem wk421 : (.static zy_Mod_common : Cond) ∈ WSg := zi21 _ (List.mem_of_getElem? (l := WS16) (i := 21) rfl)
theorem wk422 : (.code zy_Mod_row zc_Mod_row 4 none : Cond) ∈ WSg := zi21 _ (List.mem_of_getElem? (l := WS16) (i := 22) rfl)
theorem wk423 : (.fieldLink zR_Mod 66 zR_Mod "rows" "I" : Cond) ∈ WSg := zi21 _ (List.mem_of_getElem? (l := WS16) (i := 23) rfl)
theorem wk424 : (.code zy_Mod_lay zc_Mod_lay 5 none : Cond) ∈ WSg := zi21 _ (List.mem_of_getElem? (l := WS16) (i := 24) rfl)
theorem wk425 : (.fieldLink zR_Mod 69 zR_Mod "places" "I" : Cond) ∈ WSg := zi22 _ (List.mem_of_getElem? (l := WS17) (i := 0) rfl)
theorem wk426 : (.code zy_Mod_layPlaces zc_Mod_layPlaces 4 none : Cond) ∈ WSg := zi22 _ (List.mem_of_getElem? (l := WS17) (i := 1) rfl)
theorem wk427 : (.methodLink zR_Mod 72 zy_Mod_lay : Cond) ∈ WSg := zi22 _ (List.mem_of_getElem? (l := WS17) (i := 2) rfl)
theorem wk428 : (.instanceMethod zy_Mod_lay : Cond) ∈ WSg := zi22 _ (List.mem_of_getElem? (l := WS17) (i := 3) rfl)
theorem wk429 : (.selects zR_Mod zy_Mod_lay zy_Mod_lay : Cond) ∈ WSg := zi22 _ (List.mem_of_getElem? (l := WS17) (i := 4) rfl)
theorem wk430 : (.code zy_Mod_beginnings zc_Mod_beginnings 10 (some .int) : Cond) ∈ WSg := zi22 _ (List.mem_of_getElem? (l := WS17) (i := 5) rfl)
theorem wk431 : (.methodLink zR_Mod 76 zy_Mod_begins : Cond) ∈ WSg := zi22 _ (List.mem_of_getElem? (l := WS17) (i := 6) rfl)
theorem wk432 : (.static zy_Mod_begins : Cond) ∈ WSg := zi22 _ (List.mem_of_getElem? (l := WS17) (i := 7) rfl)
theorem wk433 : (.code zy_Mod_rowOf zc_Mod_rowOf 1 (some .long) : Cond) ∈ WSg := zi22 _ (List.mem_of_getElem? (l := WS17) (i := 8) rfl)
theorem wk434 : (.code zy_Mod_layNames zc_Mod_layNames 3 none : Cond) ∈ WSg := zi22 _ (List.mem_of_getElem? (l := WS17) (i := 9) rfl)
theorem wk435 : (.methodLink zR_Mod 80 zy_Mod_row : Cond) ∈ WSg := zi22 _ (List.mem_of_getElem? (l := WS17) (i := 10) rfl)
theorem wk436 : (.instanceMethod zy_Mod_row : Cond) ∈ WSg := zi22 _ (List.mem_of_getElem? (l := WS17) (i := 11) rfl)
theorem wk437 : (.selects zR_Mod zy_Mod_row zy_Mod_row : Cond) ∈ WSg := zi22 _ (List.mem_of_getElem? (l := WS17) (i := 12) rfl)
theorem wk438 : (.code zy_Mod_laySerials zc_Mod_laySerials 3 none : Cond) ∈ WSg := zi22 _ (List.mem_of_getElem? (l := WS17) (i := 13) rfl)
theorem wk439 : (.methodLink zR_Mod 83 zy_Mod_rowOf : Cond) ∈ WSg := zi22 _ (List.mem_of_getElem? (l := WS17) (i := 14) rfl)
theorem wk440 : (.static zy_Mod_rowOf : Cond) ∈ WSg := zi22 _ (List.mem_of_getElem? (l := WS17) (i := 15) rfl)
theorem wk441 : (.code zy_Mod_freePages zc_Mod_freePages 2 (some .int) : Cond) ∈ WSg := zi22 _ (List.mem_of_getElem? (l := WS17) (i := 16) rfl)
theorem wk442 : (.methodLink zR_Mod 87 zy_Mod_layNames : Cond) ∈ WSg := zi22 _ (List.mem_of_getElem? (l := WS17) (i := 17) rfl)
theorem wk443 : (.instanceMethod zy_Mod_layNames : Cond) ∈ WSg := zi22 _ (List.mem_of_getElem? (l := WS17) (i := 18) rfl)
theorem wk444 : (.selects zR_Mod zy_Mod_layNames zy_Mod_layNames : Cond) ∈ WSg := zi22 _ (List.mem_of_getElem? (l := WS17) (i := 19) rfl)
theorem wk445 : (.methodLink zR_Mod 91 zy_Mod_layPlaces : Cond) ∈ WSg := zi22 _ (List.mem_of_getElem? (l := WS17) (i := 20) rfl)
theorem wk446 : (.instanceMethod zy_Mod_layPlaces : Cond) ∈ WSg := zi22 _ (List.mem_of_getElem? (l := WS17) (i := 21) rfl)
theorem wk447 : (.selects zR_Mod zy_Mod_layPlaces zy_Mod_layPlaces : Cond) ∈ WSg := zi22 _ (List.mem_of_getElem? (l := WS17) (i := 22) rfl)
theorem wk448 : (.methodLink zR_Mod 94 zy_Mod_laySerials : Cond) ∈ WSg := zi22 _ (List.mem_of_getElem? (l := WS17) (i := 23) rfl)
theorem wk449 : (.instanceMethod zy_Mod_laySerials : Cond) ∈ WSg := zi22 _ (List.mem_of_getElem? (l := WS17) (i := 24) rfl)
theorem wk450 : (.selects zR_Mod zy_Mod_laySerials zy_Mod_laySerials : Cond) ∈ WSg := zi23 _ (List.mem_of_getElem? (l := WS18) (i := 0) rfl)
theorem wk451 : (.code zy_Mod_entryWith zc_Mod_entryWith 5 (some .int) : Cond) ∈ WSg := zi23 _ (List.mem_of_getElem? (l := WS18) (i := 1) rfl)
theorem wk452 : (.code zy_Mod_entryOf zc_Mod_entryOf 3 (some .int) : Cond) ∈ WSg := zi23 _ (List.mem_of_getElem? (l := WS18) (i := 2) rfl)
theorem wk453 : (.code zy_Mod_change zc_Mod_change 3 (some .int) : Cond) ∈ WSg := zi23 _ (List.mem_of_getElem? (l := WS18) (i := 3) rfl)
theorem wk454 : (.methodLink zR_Mod 97 zy_Mod_freePages : Cond) ∈ WSg := zi23 _ (List.mem_of_getElem? (l := WS18) (i := 4) rfl)
theorem wk455 : (.instanceMethod zy_Mod_freePages : Cond) ∈ WSg := zi23 _ (List.mem_of_getElem? (l := WS18) (i := 5) rfl)
theorem wk456 : (.selects zR_Mod zy_Mod_freePages zy_Mod_freePages : Cond) ∈ WSg := zi23 _ (List.mem_of_getElem? (l := WS18) (i := 6) rfl)
theorem wk457 : (.fieldLink zR_Mod 101 zR_Mod "made" "I" : Cond) ∈ WSg := zi23 _ (List.mem_of_getElem? (l := WS18) (i := 7) rfl)
theorem wk458 : (.fieldLink zR_Mod 104 zR_Mod "off" "Z" : Cond) ∈ WSg := zi23 _ (List.mem_of_getElem? (l := WS18) (i := 8) rfl)
theorem wk459 : (.code zy_Mod_refused zc_Mod_refused 2 (some .boolean) : Cond) ∈ WSg := zi23 _ (List.mem_of_getElem? (l := WS18) (i := 9) rfl)
theorem wk460 : (.code zy_Mod_add zc_Mod_add 5 (some .int) : Cond) ∈ WSg := zi23 _ (List.mem_of_getElem? (l := WS18) (i := 10) rfl)
theorem wk461 : (.methodLink zR_Mod 108 zy_Mod_refused : Cond) ∈ WSg := zi23 _ (List.mem_of_getElem? (l := WS18) (i := 11) rfl)
theorem wk462 : (.instanceMethod zy_Mod_refused : Cond) ∈ WSg := zi23 _ (List.mem_of_getElem? (l := WS18) (i := 12) rfl)
theorem wk463 : (.selects zR_Mod zy_Mod_refused zy_Mod_refused : Cond) ∈ WSg := zi23 _ (List.mem_of_getElem? (l := WS18) (i := 13) rfl)
theorem wk464 : (.methodLink zR_Mod 112 zy_Mod_entryWith : Cond) ∈ WSg := zi23 _ (List.mem_of_getElem? (l := WS18) (i := 14) rfl)
theorem wk465 : (.instanceMethod zy_Mod_entryWith : Cond) ∈ WSg := zi23 _ (List.mem_of_getElem? (l := WS18) (i := 15) rfl)
theorem wk466 : (.selects zR_Mod zy_Mod_entryWith zy_Mod_entryWith : Cond) ∈ WSg := zi23 _ (List.mem_of_getElem? (l := WS18) (i := 16) rfl)
theorem wk467 : (.fieldLink zR_Mod 116 zR_Mod "latest" "I" : Cond) ∈ WSg := zi23 _ (List.mem_of_getElem? (l := WS18) (i := 17) rfl)
theorem wk468 : (.methodLink zR_Mod 119 zy_Mod_beginnings : Cond) ∈ WSg := zi23 _ (List.mem_of_getElem? (l := WS18) (i := 18) rfl)
theorem wk469 : (.instanceMethod zy_Mod_beginnings : Cond) ∈ WSg := zi23 _ (List.mem_of_getElem? (l := WS18) (i := 19) rfl)
theorem wk470 : (.selects zR_Mod zy_Mod_beginnings zy_Mod_beginnings : Cond) ∈ WSg := zi23 _ (List.mem_of_getElem? (l := WS18) (i := 20) rfl)
theorem wk471 : (.methodLink zR_Mod 122 zy_Mod_change : Cond) ∈ WSg := zi23 _ (List.mem_of_getElem? (l := WS18) (i := 21) rfl)
theorem wk472 : (.instanceMethod zy_Mod_change : Cond) ∈ WSg := zi23 _ (List.mem_of_getElem? (l := WS18) (i := 22) rfl)
theorem wk473 : (.selects zR_Mod zy_Mod_change zy_Mod_change : Cond) ∈ WSg := zi23 _ (List.mem_of_getElem? (l := WS18) (i := 23) rfl)
theorem wk474 : (.code zy_Mod_remove zc_Mod_remove 6 (some .int) : Cond) ∈ WSg := zi23 _ (List.mem_of_getElem? (l := WS18) (i := 24) rfl)
theorem wk475 : (.code zy_Mod_replace zc_Mod_replace 4 (some .int) : Cond) ∈ WSg := zi24 _ (List.mem_of_getElem? (l := WS19) (i := 0) rfl)
theorem wk476 : (.code zy_Mod_rename zc_Mod_rename 5 (some .int) : Cond) ∈ WSg := zi24 _ (List.mem_of_getElem? (l := WS19) (i := 1) rfl)
theorem wk477 : (.methodLink zR_Mod 126 zy_Mod_entryOf : Cond) ∈ WSg := zi24 _ (List.mem_of_getElem? (l := WS19) (i := 2) rfl)
theorem wk478 : (.instanceMethod zy_Mod_entryOf : Cond) ∈ WSg := zi24 _ (List.mem_of_getElem? (l := WS19) (i := 3) rfl)
theorem wk479 : (.selects zR_Mod zy_Mod_entryOf zy_Mod_entryOf : Cond) ∈ WSg := zi24 _ (List.mem_of_getElem? (l := WS19) (i := 4) rfl)
theorem wk480 : (.code zy_Mod_find zc_Mod_find 2 (some .int) : Cond) ∈ WSg := zi24 _ (List.mem_of_getElem? (l := WS19) (i := 5) rfl)
theorem wk481 : (.code zy_Mod_serial zc_Mod_serial 2 (some .int) : Cond) ∈ WSg := zi24 _ (List.mem_of_getElem? (l := WS19) (i := 6) rfl)
theorem wk482 : (.code zy_Mod_next zc_Mod_next 4 (some .int) : Cond) ∈ WSg := zi24 _ (List.mem_of_getElem? (l := WS19) (i := 7) rfl)
theorem wk483 : (.fieldLink zR_Mod 129 zR_Mod "foundSerial" "I" : Cond) ∈ WSg := zi24 _ (List.mem_of_getElem? (l := WS19) (i := 8) rfl)
theorem wk484 : (.code zy_Mod_before zc_Mod_before 6 (some .int) : Cond) ∈ WSg := zi24 _ (List.mem_of_getElem? (l := WS19) (i := 9) rfl)
theorem wk485 : (.methodLink zR_Mod 132 zy_Mod_isBefore : Cond) ∈ WSg := zi24 _ (List.mem_of_getElem? (l := WS19) (i := 10) rfl)
theorem wk486 : (.static zy_Mod_isBefore : Cond) ∈ WSg := zi24 _ (List.mem_of_getElem? (l := WS19) (i := 11) rfl)
theorem wk487 : (.code zy_Mod_listed zc_Mod_listed 4 (some .int) : Cond) ∈ WSg := zi24 _ (List.mem_of_getElem? (l := WS19) (i := 12) rfl)
theorem wk488 : (.methodLink zR_Mod 135 zy_Mod_before : Cond) ∈ WSg := zi24 _ (List.mem_of_getElem? (l := WS19) (i := 13) rfl)
theorem wk489 : (.instanceMethod zy_Mod_before : Cond) ∈ WSg := zi24 _ (List.mem_of_getElem? (l := WS19) (i := 14) rfl)
theorem wk490 : (.selects zR_Mod zy_Mod_before zy_Mod_before : Cond) ∈ WSg := zi24 _ (List.mem_of_getElem? (l := WS19) (i := 15) rfl)
theorem wk491 : (.code zy_Mod_rank zc_Mod_rank 3 (some .int) : Cond) ∈ WSg := zi24 _ (List.mem_of_getElem? (l := WS19) (i := 16) rfl)
theorem wk492 : (.code zy_Mod_found zc_Mod_found 2 (some .long) : Cond) ∈ WSg := zi24 _ (List.mem_of_getElem? (l := WS19) (i := 17) rfl)
theorem wk493 : (.code zy_Mod_count zc_Mod_count 1 (some .int) : Cond) ∈ WSg := zi24 _ (List.mem_of_getElem? (l := WS19) (i := 18) rfl)
theorem wk494 : (.code zy_Mod_free zc_Mod_free 1 (some .int) : Cond) ∈ WSg := zi24 _ (List.mem_of_getElem? (l := WS19) (i := 19) rfl)
theorem wk495 : (.code zy_Mod_writes zc_Mod_writes 1 (some .int) : Cond) ∈ WSg := zi24 _ (List.mem_of_getElem? (l := WS19) (i := 20) rfl)
theorem wk496 : (.code zy_Mod_failAfter zc_Mod_failAfter 2 none : Cond) ∈ WSg := zi24 _ (List.mem_of_getElem? (l := WS19) (i := 21) rfl)
theorem wk497 : (.code zy_Mod_start zc_Mod_start 1 (some .boolean) : Cond) ∈ WSg := zi24 _ (List.mem_of_getElem? (l := WS19) (i := 22) rfl)
theorem wk498 : (.code zy_Mod_isOn zc_Mod_isOn 1 (some .boolean) : Cond) ∈ WSg := zi24 _ (List.mem_of_getElem? (l := WS19) (i := 23) rfl)
theorem zgo {w : Cond} (h : w ∈ WSg) : w ∈ WSg ∧ ((w.onTables && w.keeps) = true ∨ ∃ ty, w = .arrayClass ty) := ⟨h, good_of_word (zgood w h)⟩
theorem zgC {c : Cond} (h : c ∈ WSg) : GoodIn WSg (c :: WSg) := fun w hw => (List.mem_cons.mp hw).elim (fun e => by rw [e]; exact zgo h) zgo
theorem zgV {own C : String} {idx n : Nat} {y : MethodName} {b : ByteArray} {r : Option FieldType} (h1 : Cond.methodLink own idx y ∈ WSg) (h2 : Cond.instanceMethod y ∈ WSg) (h3 : Cond.selects C y y ∈ WSg) (h4 : Cond.initialized C ∈ WSg) (h5 : Cond.code y b n r ∈ WSg) : GoodIn WSg (wsV own idx C y (Cond.code y b n r :: WSg)) := by
  intro w hw
  unfold wsV at hw
  rcases List.mem_append.mp hw with hw | hw
  · simp only [List.mem_cons, List.not_mem_nil, or_false] at hw
    rcases hw with rfl | rfl | rfl | rfl
    · exact zgo h1
    · exact zgo h2
    · exact zgo h3
    · exact zgo h4
  · exact zgC h5 w hw
theorem zgS {own : String} {idx n : Nat} {y : MethodName} {b : ByteArray} {r : Option FieldType} (h1 : Cond.methodLink own idx y ∈ WSg) (h2 : Cond.static y ∈ WSg) (h4 : Cond.initialized y.cls ∈ WSg) (h5 : Cond.code y b n r ∈ WSg) : GoodIn WSg (va_wsS own idx y (Cond.code y b n r :: WSg)) := by
  intro w hw
  unfold va_wsS at hw
  rcases List.mem_append.mp hw with hw | hw
  · simp only [List.mem_cons, List.not_mem_nil, or_false] at hw
    rcases hw with rfl | rfl | rfl
    · exact zgo h1
    · exact zgo h2
    · exact zgo h4
  · exact zgC h5 w hw
abbrev zw_Dir_init : List Cond := .code zy_Dir_init zc_Dir_init 1 none :: WSg
abbrev zw_Dir_copyFrom : List Cond := .code zy_Dir_copyFrom zc_Dir_copyFrom 2 none :: WSg
abbrev zw_Dir_entries : List Cond := .code zy_Dir_entries zc_Dir_entries 1 (some .int) :: WSg
abbrev zw_Dir_hasMostEntries : List Cond := .code zy_Dir_hasMostEntries zc_Dir_hasMostEntries 1 (some .boolean) :: WSg
abbrev zw_Dir_serialAt : List Cond := .code zy_Dir_serialAt zc_Dir_serialAt 2 (some .int) :: WSg
abbrev zw_Dir_nameAt : List Cond := .code zy_Dir_nameAt zc_Dir_nameAt 2 (some .long) :: WSg
abbrev zw_Dir_targetAt : List Cond := .code zy_Dir_targetAt zc_Dir_targetAt 2 (some .int) :: WSg
abbrev zw_Dir_indexOfName : List Cond := .code zy_Dir_indexOfName zc_Dir_indexOfName 4 (some .int) :: WSg
abbrev zw_Dir_indexOfSerial : List Cond := .code zy_Dir_indexOfSerial zc_Dir_indexOfSerial 3 (some .int) :: WSg
abbrev zw_Dir_indexAbove : List Cond := .code zy_Dir_indexAbove zc_Dir_indexAbove 3 (some .int) :: WSg
abbrev zw_Dir_indexListed : List Cond := .code zy_Dir_indexListed zc_Dir_indexListed 5 (some .int) :: WSg
abbrev zw_Dir_namesBefore : List Cond := .code zy_Dir_namesBefore zc_Dir_namesBefore 3 (some .int) :: WSg
abbrev zw_Dir_enter : List Cond := .code zy_Dir_enter zc_Dir_enter 4 (some .int) :: WSg
abbrev zw_Dir_drop : List Cond := .code zy_Dir_drop zc_Dir_drop 2 none :: WSg
abbrev zw_Dir_giveTarget : List Cond := .code zy_Dir_giveTarget zc_Dir_giveTarget 3 none :: WSg
abbrev zw_Dir_giveName : List Cond := .code zy_Dir_giveName zc_Dir_giveName 4 none :: WSg
abbrev zw_Dir_freePages : List Cond := .code zy_Dir_freePages zc_Dir_freePages 1 (some .int) :: WSg
abbrev zw_Dir_pagesOfName : List Cond := .code zy_Dir_pagesOfName zc_Dir_pagesOfName 3 (some .int) :: WSg
abbrev zw_Dir_pagesOfNames : List Cond := .code zy_Dir_pagesOfNames zc_Dir_pagesOfNames 6 (some .int) :: WSg
abbrev zw_Dir_pagesOfSerial : List Cond := .code zy_Dir_pagesOfSerial zc_Dir_pagesOfSerial 2 (some .int) :: WSg
abbrev zw_Pow_init : List Cond := .code zy_Pow_init zc_Pow_init 1 none :: WSg
abbrev zw_Pow_isSupplied : List Cond := .code zy_Pow_isSupplied zc_Pow_isSupplied 1 (some .boolean) :: WSg
abbrev zw_Pow_allow : List Cond := .code zy_Pow_allow zc_Pow_allow 2 none :: WSg
abbrev zw_Pow_restore : List Cond := .code zy_Pow_restore zc_Pow_restore 1 none :: WSg
abbrev zw_Pow_write : List Cond := .code zy_Pow_write zc_Pow_write 3 (some .int) :: WSg
abbrev zw_Row_extended : List Cond := .code zy_Row_extended zc_Row_extended 4 (some .long) :: WSg
abbrev zw_Row_ofSerial : List Cond := .code zy_Row_ofSerial zc_Row_ofSerial 1 (some .long) :: WSg
abbrev zw_Row_beginning : List Cond := .code zy_Row_beginning zc_Row_beginning 3 (some .long) :: WSg
abbrev zw_Row_lengthOf : List Cond := .code zy_Row_lengthOf zc_Row_lengthOf 3 (some .int) :: WSg
abbrev zw_Row_lengthInCommon : List Cond := .code zy_Row_lengthInCommon zc_Row_lengthInCommon 5 (some .int) :: WSg
abbrev zw_Row_wordOf : List Cond := .code zy_Row_wordOf zc_Row_wordOf 6 (some .long) :: WSg
abbrev zw_Row_digitAt : List Cond := .code zy_Row_digitAt zc_Row_digitAt 3 (some .int) :: WSg
abbrev zw_Set_init : List Cond := .code zy_Set_init zc_Set_init 1 none :: WSg
abbrev zw_Set_copyFrom : List Cond := .code zy_Set_copyFrom zc_Set_copyFrom 2 none :: WSg
abbrev zw_Set_insert : List Cond := .code zy_Set_insert zc_Set_insert 4 none :: WSg
abbrev zw_Set_take : List Cond := .code zy_Set_take zc_Set_take 4 none :: WSg
abbrev zw_Set_rowsBefore : List Cond := .code zy_Set_rowsBefore zc_Set_rowsBefore 4 (some .int) :: WSg
abbrev zw_Set_rowWith : List Cond := .code zy_Set_rowWith zc_Set_rowWith 6 (some .long) :: WSg
abbrev zw_Set_places : List Cond := .code zy_Set_places zc_Set_places 6 (some .int) :: WSg
abbrev zw_Set_placesAlong : List Cond := .code zy_Set_placesAlong zc_Set_placesAlong 7 (some .int) :: WSg
abbrev zw_Set_isPlaceAlong : List Cond := .code zy_Set_isPlaceAlong zc_Set_isPlaceAlong 7 (some .boolean) :: WSg
abbrev zw_Set_hasBeginning : List Cond := .code zy_Set_hasBeginning zc_Set_hasBeginning 5 (some .boolean) :: WSg
abbrev zw_Set_isPlace : List Cond := .code zy_Set_isPlace zc_Set_isPlace 6 (some .boolean) :: WSg
abbrev zw_Lst_init : List Cond := .code zy_Lst_init zc_Lst_init 1 none :: WSg
abbrev zw_Lst_name : List Cond := .code zy_Lst_name zc_Lst_name 8 none :: WSg
abbrev zw_Lst_add : List Cond := .code zy_Lst_add zc_Lst_add 3 (some .int) :: WSg
abbrev zw_Lst_remove : List Cond := .code zy_Lst_remove zc_Lst_remove 3 (some .int) :: WSg
abbrev zw_Lst_replace : List Cond := .code zy_Lst_replace zc_Lst_replace 3 (some .int) :: WSg
abbrev zw_Lst_rename : List Cond := .code zy_Lst_rename zc_Lst_rename 6 (some .int) :: WSg
abbrev zw_Lst_find : List Cond := .code zy_Lst_find zc_Lst_find 2 (some .int) :: WSg
abbrev zw_Lst_serial : List Cond := .code zy_Lst_serial zc_Lst_serial 1 (some .int) :: WSg
abbrev zw_Lst_next : List Cond := .code zy_Lst_next zc_Lst_next 2 (some .int) :: WSg
abbrev zw_Lst_listed : List Cond := .code zy_Lst_listed zc_Lst_listed 3 (some .int) :: WSg
abbrev zw_Lst_rank : List Cond := .code zy_Lst_rank zc_Lst_rank 1 (some .int) :: WSg
abbrev zw_Lst_found : List Cond := .code zy_Lst_found zc_Lst_found 2 (some .long) :: WSg
abbrev zw_Lst_count : List Cond := .code zy_Lst_count zc_Lst_count 1 (some .int) :: WSg
abbrev zw_Lst_free : List Cond := .code zy_Lst_free zc_Lst_free 1 (some .int) :: WSg
abbrev zw_Lst_writes : List Cond := .code zy_Lst_writes zc_Lst_writes 1 (some .int) :: WSg
abbrev zw_Lst_failAfter : List Cond := .code zy_Lst_failAfter zc_Lst_failAfter 2 none :: WSg
abbrev zw_Lst_start : List Cond := .code zy_Lst_start zc_Lst_start 1 (some .boolean) :: WSg
abbrev zw_Lst_isOn : List Cond := .code zy_Lst_isOn zc_Lst_isOn 1 (some .boolean) :: WSg
abbrev zw_Lst_requirePower : List Cond := .code zy_Lst_requirePower zc_Lst_requirePower 1 none :: WSg
abbrev zw_Lst_serialAtOrNone : List Cond := .code zy_Lst_serialAtOrNone zc_Lst_serialAtOrNone 2 (some .int) :: WSg
abbrev zw_Lst_carryOut : List Cond := .code zy_Lst_carryOut zc_Lst_carryOut 4 (some .int) :: WSg
abbrev zw_Law_name : List Cond := .code zy_Law_name zc_Law_name 5 (some .int) :: WSg
abbrev zw_Law_add : List Cond := .code zy_Law_add zc_Law_add 4 (some .int) :: WSg
abbrev zw_Law_remove : List Cond := .code zy_Law_remove zc_Law_remove 3 (some .int) :: WSg
abbrev zw_Law_replace : List Cond := .code zy_Law_replace zc_Law_replace 4 (some .int) :: WSg
abbrev zw_Law_rename : List Cond := .code zy_Law_rename zc_Law_rename 4 (some .int) :: WSg
abbrev zw_Law_find : List Cond := .code zy_Law_find zc_Law_find 3 (some .int) :: WSg
abbrev zw_Law_serial : List Cond := .code zy_Law_serial zc_Law_serial 3 (some .int) :: WSg
abbrev zw_Law_next : List Cond := .code zy_Law_next zc_Law_next 4 (some .int) :: WSg
abbrev zw_Law_listed : List Cond := .code zy_Law_listed zc_Law_listed 5 (some .int) :: WSg
abbrev zw_Law_rank : List Cond := .code zy_Law_rank zc_Law_rank 3 (some .int) :: WSg
abbrev zw_Law_found : List Cond := .code zy_Law_found zc_Law_found 3 (some .int) :: WSg
abbrev zw_Law_count : List Cond := .code zy_Law_count zc_Law_count 3 (some .int) :: WSg
abbrev zw_Law_free : List Cond := .code zy_Law_free zc_Law_free 3 (some .int) :: WSg
abbrev zw_Law_failAfter : List Cond := .code zy_Law_failAfter zc_Law_failAfter 3 (some .int) :: WSg
abbrev zw_Law_law : List Cond := .code zy_Law_law zc_Law_law 8 (some .boolean) :: WSg
abbrev zw_Mod_init : List Cond := .code zy_Mod_init zc_Mod_init 1 none :: WSg
abbrev zw_Mod_thrown : List Cond := .code zy_Mod_thrown zc_Mod_thrown 1 (some .int) :: WSg
abbrev zw_Mod_name : List Cond := .code zy_Mod_name zc_Mod_name 7 none :: WSg
abbrev zw_Mod_firstOf : List Cond := .code zy_Mod_firstOf zc_Mod_firstOf 3 (some .long) :: WSg
abbrev zw_Mod_begins : List Cond := .code zy_Mod_begins zc_Mod_begins 6 (some .boolean) :: WSg
abbrev zw_Mod_common : List Cond := .code zy_Mod_common zc_Mod_common 7 (some .int) :: WSg
abbrev zw_Mod_isBefore : List Cond := .code zy_Mod_isBefore zc_Mod_isBefore 7 (some .boolean) :: WSg
abbrev zw_Mod_row : List Cond := .code zy_Mod_row zc_Mod_row 4 none :: WSg
abbrev zw_Mod_lay : List Cond := .code zy_Mod_lay zc_Mod_lay 5 none :: WSg
abbrev zw_Mod_layPlaces : List Cond := .code zy_Mod_layPlaces zc_Mod_layPlaces 4 none :: WSg
abbrev zw_Mod_beginnings : List Cond := .code zy_Mod_beginnings zc_Mod_beginnings 10 (some .int) :: WSg
abbrev zw_Mod_rowOf : List Cond := .code zy_Mod_rowOf zc_Mod_rowOf 1 (some .long) :: WSg
abbrev zw_Mod_layNames : List Cond := .code zy_Mod_layNames zc_Mod_layNames 3 none :: WSg
abbrev zw_Mod_laySerials : List Cond := .code zy_Mod_laySerials zc_Mod_laySerials 3 none :: WSg
abbrev zw_Mod_freePages : List Cond := .code zy_Mod_freePages zc_Mod_freePages 2 (some .int) :: WSg
abbrev zw_Mod_entryWith : List Cond := .code zy_Mod_entryWith zc_Mod_entryWith 5 (some .int) :: WSg
abbrev zw_Mod_entryOf : List Cond := .code zy_Mod_entryOf zc_Mod_entryOf 3 (some .int) :: WSg
abbrev zw_Mod_change : List Cond := .code zy_Mod_change zc_Mod_change 3 (some .int) :: WSg
abbrev zw_Mod_refused : List Cond := .code zy_Mod_refused zc_Mod_refused 2 (some .boolean) :: WSg
abbrev zw_Mod_add : List Cond := .code zy_Mod_add zc_Mod_add 5 (some .int) :: WSg
abbrev zw_Mod_remove : List Cond := .code zy_Mod_remove zc_Mod_remove 6 (some .int) :: WSg
abbrev zw_Mod_replace : List Cond := .code zy_Mod_replace zc_Mod_replace 4 (some .int) :: WSg
abbrev zw_Mod_rename : List Cond := .code zy_Mod_rename zc_Mod_rename 5 (some .int) :: WSg
abbrev zw_Mod_find : List Cond := .code zy_Mod_find zc_Mod_find 2 (some .int) :: WSg
abbrev zw_Mod_serial : List Cond := .code zy_Mod_serial zc_Mod_serial 2 (some .int) :: WSg
abbrev zw_Mod_next : List Cond := .code zy_Mod_next zc_Mod_next 4 (some .int) :: WSg
abbrev zw_Mod_before : List Cond := .code zy_Mod_before zc_Mod_before 6 (some .int) :: WSg
abbrev zw_Mod_listed : List Cond := .code zy_Mod_listed zc_Mod_listed 4 (some .int) :: WSg
abbrev zw_Mod_rank : List Cond := .code zy_Mod_rank zc_Mod_rank 3 (some .int) :: WSg
abbrev zw_Mod_found : List Cond := .code zy_Mod_found zc_Mod_found 2 (some .long) :: WSg
abbrev zw_Mod_count : List Cond := .code zy_Mod_count zc_Mod_count 1 (some .int) :: WSg
abbrev zw_Mod_free : List Cond := .code zy_Mod_free zc_Mod_free 1 (some .int) :: WSg
abbrev zw_Mod_writes : List Cond := .code zy_Mod_writes zc_Mod_writes 1 (some .int) :: WSg
abbrev zw_Mod_failAfter : List Cond := .code zy_Mod_failAfter zc_Mod_failAfter 2 none :: WSg
abbrev zw_Mod_start : List Cond := .code zy_Mod_start zc_Mod_start 1 (some .boolean) :: WSg
abbrev zw_Mod_isOn : List Cond := .code zy_Mod_isOn zc_Mod_isOn 1 (some .boolean) :: WSg
