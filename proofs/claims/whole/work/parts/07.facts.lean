def shp : List (Nat × Nat) := [(5, 10), (1, 2), (7, 264), (7, 1024), (4, 13), (7, 16), (0, 2), (7, 16), (0, 2), (7, 16), (7, 180), (7, 30), (7, 30), (7, 16), (3, 4), (7, 32), (7, 6), (7, 6), (0, 2), (7, 16), (0, 2), (7, 16), (8, 8), (7, 4), (2, 8), (7, 4), (2, 8), (7, 4), (2, 8), (7, 4), (2, 8), (7, 4), (2, 8), (7, 4), (2, 8), (7, 4), (2, 8), (7, 4), (2, 8), (7, 4), (6, 35), (7, 252), (7, 1024), (7, 12), (7, 12), (7, 30), (7, 30), (7, 16), (7, 180), (7, 12), (7, 18), (7, 32), (7, 6), (7, 6), (7, 8), (7, 8), (7, 8), (7, 8), (7, 32), (7, 8), (7, 8), (7, 4)]
def rft : List (List (Option Nat)) := [[some 1, some 4, some 14, some 18, some 20, some 22, some 23], [some 2, some 3], [], [], [some 1, some 5, some 6, some 8, some 10, none, some 11, some 12, none, some 13], [], [some 7], [], [some 9], [], [], [], [], [], [some 15, some 16, some 17], [], [], [], [some 19], [], [some 21], [], [some 24, some 26, some 28, some 30, some 32, some 34, some 36, some 38], [], [none, some 25], [], [none, some 27], [], [none, some 29], [], [none, some 31], [], [none, some 33], [], [none, some 35], [], [none, some 37], [], [none, some 39], [], [some 41, some 42, some 43, none, some 44, none, some 45, some 46, none, none, none, some 47, none, some 48, none, some 49, some 50, some 51, none, some 52, some 53, some 54, some 55, some 56, some 57, some 58, some 59, some 60, none, none, none, none, some 61], [], [], [], [], [], [], [], [], [], [], [], [], [], [], [], [], [], [], [], [], []]
def rfs (a k : Nat) : Option Nat := (((rft[a]?).getD [])[k]?).getD none
def mX0_init : MX := (yX0_init, cX0_init, 1, none, (1, 20), (1, 16))
set_option maxRecDepth 100000 in
theorem ckX0_init : cOK mX0_init 0 := ⟨gG_of (by decide +kernel) rfl, gG_of (by decide +kernel) rfl, by decide +kernel⟩
set_option maxRecDepth 100000 in
theorem ikX0_init : Cond.instanceMethod mX0_init.1 ∈ gG := gG_of (by decide +kernel) rfl
def mX0_size : MX := (yX0_size, cX0_size, 1, some .int, (0, 0), (0, 0))
set_option maxRecDepth 100000 in
theorem ckX0_size : cOK mX0_size 0 := ⟨gG_of (by decide +kernel) rfl, gG_of (by decide +kernel) rfl, by decide +kernel⟩
set_option maxRecDepth 100000 in
theorem vkX0_size : vOK mX0_size 0 := ⟨ckX0_size, gG_of (by decide +kernel) rfl, gG_of (by decide +kernel) rfl⟩
def mX0_at : MX := (yX0_at, cX0_at, 2, some .int, (0, 0), (0, 0))
set_option maxRecDepth 100000 in
theorem ckX0_at : cOK mX0_at 1 := ⟨gG_of (by decide +kernel) rfl, gG_of (by decide +kernel) rfl, by decide +kernel⟩
set_option maxRecDepth 100000 in
theorem vkX0_at : vOK mX0_at 1 := ⟨ckX0_at, gG_of (by decide +kernel) rfl, gG_of (by decide +kernel) rfl⟩
def mX0_clear : MX := (yX0_clear, cX0_clear, 1, none, (0, 0), (0, 0))
set_option maxRecDepth 100000 in
theorem ckX0_clear : cOK mX0_clear 0 := ⟨gG_of (by decide +kernel) rfl, gG_of (by decide +kernel) rfl, by decide +kernel⟩
set_option maxRecDepth 100000 in
theorem vkX0_clear : vOK mX0_clear 0 := ⟨ckX0_clear, gG_of (by decide +kernel) rfl, gG_of (by decide +kernel) rfl⟩
def mX0_add : MX := (yX0_add, cX0_add, 2, none, (0, 0), (0, 0))
set_option maxRecDepth 100000 in
theorem ckX0_add : cOK mX0_add 1 := ⟨gG_of (by decide +kernel) rfl, gG_of (by decide +kernel) rfl, by decide +kernel⟩
set_option maxRecDepth 100000 in
theorem vkX0_add : vOK mX0_add 1 := ⟨ckX0_add, gG_of (by decide +kernel) rfl, gG_of (by decide +kernel) rfl⟩
def mX0_addNumber : MX := (yX0_addNumber, cX0_addNumber, 3, none, (1, 21), (0, 0))
set_option maxRecDepth 100000 in
theorem ckX0_addNumber : cOK mX0_addNumber 1 := ⟨gG_of (by decide +kernel) rfl, gG_of (by decide +kernel) rfl, by decide +kernel⟩
set_option maxRecDepth 100000 in
theorem vkX0_addNumber : vOK mX0_addNumber 1 := ⟨ckX0_addNumber, gG_of (by decide +kernel) rfl, gG_of (by decide +kernel) rfl⟩
def mX0_numberAt : MX := (yX0_numberAt, cX0_numberAt, 4, some .int, (0, 0), (0, 0))
set_option maxRecDepth 100000 in
theorem ckX0_numberAt : cOK mX0_numberAt 1 := ⟨gG_of (by decide +kernel) rfl, gG_of (by decide +kernel) rfl, by decide +kernel⟩
set_option maxRecDepth 100000 in
theorem vkX0_numberAt : vOK mX0_numberAt 1 := ⟨ckX0_numberAt, gG_of (by decide +kernel) rfl, gG_of (by decide +kernel) rfl⟩
def mX0_copy : MX := (yX0_copy, cX0_copy, 3, none, (1, 21), (0, 0))
set_option maxRecDepth 100000 in
theorem ckX0_copy : cOK mX0_copy 1 := ⟨gG_of (by decide +kernel) rfl, gG_of (by decide +kernel) rfl, by decide +kernel⟩
set_option maxRecDepth 100000 in
theorem vkX0_copy : vOK mX0_copy 1 := ⟨ckX0_copy, gG_of (by decide +kernel) rfl, gG_of (by decide +kernel) rfl⟩
def mX0_setOrder : MX := (yX0_setOrder, cX0_setOrder, 2, none, (1, 21), (0, 0))
set_option maxRecDepth 100000 in
theorem ckX0_setOrder : cOK mX0_setOrder 1 := ⟨gG_of (by decide +kernel) rfl, gG_of (by decide +kernel) rfl, by decide +kernel⟩
set_option maxRecDepth 100000 in
theorem vkX0_setOrder : vOK mX0_setOrder 1 := ⟨ckX0_setOrder, gG_of (by decide +kernel) rfl, gG_of (by decide +kernel) rfl⟩
def mX0_setNumber : MX := (yX0_setNumber, cX0_setNumber, 3, none, (2, 43), (0, 0))
set_option maxRecDepth 100000 in
theorem ckX0_setNumber : cOK mX0_setNumber 2 := ⟨gG_of (by decide +kernel) rfl, gG_of (by decide +kernel) rfl, by decide +kernel⟩
set_option maxRecDepth 100000 in
theorem vkX0_setNumber : vOK mX0_setNumber 2 := ⟨ckX0_setNumber, gG_of (by decide +kernel) rfl, gG_of (by decide +kernel) rfl⟩
def mX0_setAnswer : MX := (yX0_setAnswer, cX0_setAnswer, 3, none, (1, 21), (0, 0))
set_option maxRecDepth 100000 in
theorem ckX0_setAnswer : cOK mX0_setAnswer 2 := ⟨gG_of (by decide +kernel) rfl, gG_of (by decide +kernel) rfl, by decide +kernel⟩
set_option maxRecDepth 100000 in
theorem vkX0_setAnswer : vOK mX0_setAnswer 2 := ⟨ckX0_setAnswer, gG_of (by decide +kernel) rfl, gG_of (by decide +kernel) rfl⟩
def mX0_checksum : MX := (yX0_checksum, cX0_checksum, 6, some .int, (0, 0), (0, 0))
set_option maxRecDepth 100000 in
theorem ckX0_checksum : cOK mX0_checksum 1 := ⟨gG_of (by decide +kernel) rfl, gG_of (by decide +kernel) rfl, by decide +kernel⟩
set_option maxRecDepth 100000 in
theorem vkX0_checksum : vOK mX0_checksum 1 := ⟨ckX0_checksum, gG_of (by decide +kernel) rfl, gG_of (by decide +kernel) rfl⟩
def mX1_init : MX := (yX1_init, cX1_init, 5, none, (1, 20), (2, 1288))
set_option maxRecDepth 100000 in
theorem ckX1_init : cOK mX1_init 0 := ⟨gG_of (by decide +kernel) rfl, gG_of (by decide +kernel) rfl, by decide +kernel⟩
set_option maxRecDepth 100000 in
theorem ikX1_init : Cond.instanceMethod mX1_init.1 ∈ gG := gG_of (by decide +kernel) rfl
def mX1_wordOf : MX := (yX1_wordOf, cX1_wordOf, 4, some .int, (0, 0), (0, 0))
set_option maxRecDepth 100000 in
theorem ckX1_wordOf : cOK mX1_wordOf 2 := ⟨gG_of (by decide +kernel) rfl, gG_of (by decide +kernel) rfl, by decide +kernel⟩
set_option maxRecDepth 100000 in
theorem vkX1_wordOf : vOK mX1_wordOf 2 := ⟨ckX1_wordOf, gG_of (by decide +kernel) rfl, gG_of (by decide +kernel) rfl⟩
def mX1_valueOf : MX := (yX1_valueOf, cX1_valueOf, 5, some .int, (1, 20), (0, 0))
set_option maxRecDepth 100000 in
theorem ckX1_valueOf : cOK mX1_valueOf 2 := ⟨gG_of (by decide +kernel) rfl, gG_of (by decide +kernel) rfl, by decide +kernel⟩
set_option maxRecDepth 100000 in
theorem vkX1_valueOf : vOK mX1_valueOf 2 := ⟨ckX1_valueOf, gG_of (by decide +kernel) rfl, gG_of (by decide +kernel) rfl⟩
def mX2_init : MX := (yX2_init, cX2_init, 2, none, (1, 20), (1, 4))
set_option maxRecDepth 100000 in
theorem ckX2_init : cOK mX2_init 1 := ⟨gG_of (by decide +kernel) rfl, gG_of (by decide +kernel) rfl, by decide +kernel⟩
set_option maxRecDepth 100000 in
theorem ikX2_init : Cond.instanceMethod mX2_init.1 ∈ gG := gG_of (by decide +kernel) rfl
def mX2_begin : MX := (yX2_begin, cX2_begin, 5, none, (0, 0), (0, 0))
set_option maxRecDepth 100000 in
theorem ckX2_begin : cOK mX2_begin 4 := ⟨gG_of (by decide +kernel) rfl, gG_of (by decide +kernel) rfl, by decide +kernel⟩
set_option maxRecDepth 100000 in
theorem vkX2_begin : vOK mX2_begin 4 := ⟨ckX2_begin, gG_of (by decide +kernel) rfl, gG_of (by decide +kernel) rfl⟩
def mX2_end : MX := (yX2_end, cX2_end, 2, none, (0, 0), (0, 0))
set_option maxRecDepth 100000 in
theorem ckX2_end : cOK mX2_end 1 := ⟨gG_of (by decide +kernel) rfl, gG_of (by decide +kernel) rfl, by decide +kernel⟩
set_option maxRecDepth 100000 in
theorem vkX2_end : vOK mX2_end 1 := ⟨ckX2_end, gG_of (by decide +kernel) rfl, gG_of (by decide +kernel) rfl⟩
def mX2_lastSector : MX := (yX2_lastSector, cX2_lastSector, 1, some .int, (0, 0), (0, 0))
set_option maxRecDepth 100000 in
theorem ckX2_lastSector : cOK mX2_lastSector 0 := ⟨gG_of (by decide +kernel) rfl, gG_of (by decide +kernel) rfl, by decide +kernel⟩
set_option maxRecDepth 100000 in
theorem vkX2_lastSector : vOK mX2_lastSector 0 := ⟨ckX2_lastSector, gG_of (by decide +kernel) rfl, gG_of (by decide +kernel) rfl⟩
def mX2_numberAt : MX := (yX2_numberAt, cX2_numberAt, 2, some .int, (0, 0), (0, 0))
set_option maxRecDepth 100000 in
theorem ckX2_numberAt : cOK mX2_numberAt 1 := ⟨gG_of (by decide +kernel) rfl, gG_of (by decide +kernel) rfl, by decide +kernel⟩
set_option maxRecDepth 100000 in
theorem vkX2_numberAt : vOK mX2_numberAt 1 := ⟨ckX2_numberAt, gG_of (by decide +kernel) rfl, gG_of (by decide +kernel) rfl⟩
def mX2_setNumber : MX := (yX2_setNumber, cX2_setNumber, 3, none, (0, 0), (0, 0))
set_option maxRecDepth 100000 in
theorem ckX2_setNumber : cOK mX2_setNumber 2 := ⟨gG_of (by decide +kernel) rfl, gG_of (by decide +kernel) rfl, by decide +kernel⟩
set_option maxRecDepth 100000 in
theorem vkX2_setNumber : vOK mX2_setNumber 2 := ⟨ckX2_setNumber, gG_of (by decide +kernel) rfl, gG_of (by decide +kernel) rfl⟩
def mX2_setNumbers : MX := (yX2_setNumbers, cX2_setNumbers, 5, none, (1, 22), (0, 0))
set_option maxRecDepth 100000 in
theorem ckX2_setNumbers : cOK mX2_setNumbers 4 := ⟨gG_of (by decide +kernel) rfl, gG_of (by decide +kernel) rfl, by decide +kernel⟩
set_option maxRecDepth 100000 in
theorem vkX2_setNumbers : vOK mX2_setNumbers 4 := ⟨ckX2_setNumbers, gG_of (by decide +kernel) rfl, gG_of (by decide +kernel) rfl⟩
def mX2_copyNumbers : MX := (yX2_copyNumbers, cX2_copyNumbers, 3, none, (1, 21), (0, 0))
set_option maxRecDepth 100000 in
theorem ckX2_copyNumbers : cOK mX2_copyNumbers 1 := ⟨gG_of (by decide +kernel) rfl, gG_of (by decide +kernel) rfl, by decide +kernel⟩
set_option maxRecDepth 100000 in
theorem vkX2_copyNumbers : vOK mX2_copyNumbers 1 := ⟨ckX2_copyNumbers, gG_of (by decide +kernel) rfl, gG_of (by decide +kernel) rfl⟩
def mX3_init : MX := (yX3_init, cX3_init, 1, none, (1, 20), (3, 44))
set_option maxRecDepth 100000 in
theorem ckX3_init : cOK mX3_init 0 := ⟨gG_of (by decide +kernel) rfl, gG_of (by decide +kernel) rfl, by decide +kernel⟩
set_option maxRecDepth 100000 in
theorem ikX3_init : Cond.instanceMethod mX3_init.1 ∈ gG := gG_of (by decide +kernel) rfl
def mX3_numberOnDisk : MX := (yX3_numberOnDisk, cX3_numberOnDisk, 2, some .int, (0, 0), (0, 0))
set_option maxRecDepth 100000 in
theorem ckX3_numberOnDisk : cOK mX3_numberOnDisk 1 := ⟨gG_of (by decide +kernel) rfl, gG_of (by decide +kernel) rfl, by decide +kernel⟩
set_option maxRecDepth 100000 in
theorem vkX3_numberOnDisk : vOK mX3_numberOnDisk 1 := ⟨ckX3_numberOnDisk, gG_of (by decide +kernel) rfl, gG_of (by decide +kernel) rfl⟩
def mX3_numberAsRead : MX := (yX3_numberAsRead, cX3_numberAsRead, 3, some .int, (1, 22), (0, 0))
set_option maxRecDepth 100000 in
theorem ckX3_numberAsRead : cOK mX3_numberAsRead 1 := ⟨gG_of (by decide +kernel) rfl, gG_of (by decide +kernel) rfl, by decide +kernel⟩
set_option maxRecDepth 100000 in
theorem vkX3_numberAsRead : vOK mX3_numberAsRead 1 := ⟨ckX3_numberAsRead, gG_of (by decide +kernel) rfl, gG_of (by decide +kernel) rfl⟩
def mX3_sectorAtPlace : MX := (yX3_sectorAtPlace, cX3_sectorAtPlace, 2, some .int, (0, 0), (0, 0))
set_option maxRecDepth 100000 in
theorem ckX3_sectorAtPlace : cOK mX3_sectorAtPlace 1 := ⟨gG_of (by decide +kernel) rfl, gG_of (by decide +kernel) rfl, by decide +kernel⟩
set_option maxRecDepth 100000 in
theorem vkX3_sectorAtPlace : vOK mX3_sectorAtPlace 1 := ⟨ckX3_sectorAtPlace, gG_of (by decide +kernel) rfl, gG_of (by decide +kernel) rfl⟩
def mX3_putInCache : MX := (yX3_putInCache, cX3_putInCache, 4, none, (1, 22), (0, 0))
set_option maxRecDepth 100000 in
theorem ckX3_putInCache : cOK mX3_putInCache 2 := ⟨gG_of (by decide +kernel) rfl, gG_of (by decide +kernel) rfl, by decide +kernel⟩
set_option maxRecDepth 100000 in
theorem vkX3_putInCache : vOK mX3_putInCache 2 := ⟨ckX3_putInCache, gG_of (by decide +kernel) rfl, gG_of (by decide +kernel) rfl⟩
def mX3_putThrough : MX := (yX3_putThrough, cX3_putThrough, 4, none, (1, 22), (0, 0))
set_option maxRecDepth 100000 in
theorem ckX3_putThrough : cOK mX3_putThrough 2 := ⟨gG_of (by decide +kernel) rfl, gG_of (by decide +kernel) rfl, by decide +kernel⟩
set_option maxRecDepth 100000 in
theorem vkX3_putThrough : vOK mX3_putThrough 2 := ⟨ckX3_putThrough, gG_of (by decide +kernel) rfl, gG_of (by decide +kernel) rfl⟩
def mX3_layAll : MX := (yX3_layAll, cX3_layAll, 2, none, (1, 22), (0, 0))
set_option maxRecDepth 100000 in
theorem ckX3_layAll : cOK mX3_layAll 0 := ⟨gG_of (by decide +kernel) rfl, gG_of (by decide +kernel) rfl, by decide +kernel⟩
set_option maxRecDepth 100000 in
theorem vkX3_layAll : vOK mX3_layAll 0 := ⟨ckX3_layAll, gG_of (by decide +kernel) rfl, gG_of (by decide +kernel) rfl⟩
def mX3_dropCache : MX := (yX3_dropCache, cX3_dropCache, 2, some .int, (0, 0), (0, 0))
set_option maxRecDepth 100000 in
theorem ckX3_dropCache : cOK mX3_dropCache 0 := ⟨gG_of (by decide +kernel) rfl, gG_of (by decide +kernel) rfl, by decide +kernel⟩
set_option maxRecDepth 100000 in
theorem vkX3_dropCache : vOK mX3_dropCache 0 := ⟨ckX3_dropCache, gG_of (by decide +kernel) rfl, gG_of (by decide +kernel) rfl⟩
def mX3_placeInCache : MX := (yX3_placeInCache, cX3_placeInCache, 3, some .int, (0, 0), (0, 0))
set_option maxRecDepth 100000 in
theorem ckX3_placeInCache : cOK mX3_placeInCache 1 := ⟨gG_of (by decide +kernel) rfl, gG_of (by decide +kernel) rfl, by decide +kernel⟩
set_option maxRecDepth 100000 in
theorem vkX3_placeInCache : vOK mX3_placeInCache 1 := ⟨ckX3_placeInCache, gG_of (by decide +kernel) rfl, gG_of (by decide +kernel) rfl⟩
def mX3_removeFromCache : MX := (yX3_removeFromCache, cX3_removeFromCache, 3, none, (0, 0), (0, 0))
set_option maxRecDepth 100000 in
theorem ckX3_removeFromCache : cOK mX3_removeFromCache 1 := ⟨gG_of (by decide +kernel) rfl, gG_of (by decide +kernel) rfl, by decide +kernel⟩
set_option maxRecDepth 100000 in
theorem vkX3_removeFromCache : vOK mX3_removeFromCache 1 := ⟨ckX3_removeFromCache, gG_of (by decide +kernel) rfl, gG_of (by decide +kernel) rfl⟩
def mX3_putOnDisk : MX := (yX3_putOnDisk, cX3_putOnDisk, 3, none, (0, 0), (0, 0))
set_option maxRecDepth 100000 in
theorem ckX3_putOnDisk : cOK mX3_putOnDisk 2 := ⟨gG_of (by decide +kernel) rfl, gG_of (by decide +kernel) rfl, by decide +kernel⟩
set_option maxRecDepth 100000 in
theorem vkX3_putOnDisk : vOK mX3_putOnDisk 2 := ⟨ckX3_putOnDisk, gG_of (by decide +kernel) rfl, gG_of (by decide +kernel) rfl⟩
def mX4_init : MX := (yX4_init, cX4_init, 6, none, (2, 40), (9, 308))
set_option maxRecDepth 100000 in
theorem ckX4_init : cOK mX4_init 1 := ⟨gG_of (by decide +kernel) rfl, gG_of (by decide +kernel) rfl, by decide +kernel⟩
set_option maxRecDepth 100000 in
theorem ikX4_init : Cond.instanceMethod mX4_init.1 ∈ gG := gG_of (by decide +kernel) rfl
def mX4_bitAt : MX := (yX4_bitAt, cX4_bitAt, 2, some .int, (0, 0), (0, 0))
set_option maxRecDepth 100000 in
theorem ckX4_bitAt : cOK mX4_bitAt 1 := ⟨gG_of (by decide +kernel) rfl, gG_of (by decide +kernel) rfl, by decide +kernel⟩
set_option maxRecDepth 100000 in
theorem vkX4_bitAt : vOK mX4_bitAt 1 := ⟨ckX4_bitAt, gG_of (by decide +kernel) rfl, gG_of (by decide +kernel) rfl⟩
def mX4_findingFromEnd : MX := (yX4_findingFromEnd, cX4_findingFromEnd, 2, some .int, (1, 21), (0, 0))
set_option maxRecDepth 100000 in
theorem ckX4_findingFromEnd : cOK mX4_findingFromEnd 1 := ⟨gG_of (by decide +kernel) rfl, gG_of (by decide +kernel) rfl, by decide +kernel⟩
set_option maxRecDepth 100000 in
theorem vkX4_findingFromEnd : vOK mX4_findingFromEnd 1 := ⟨ckX4_findingFromEnd, gG_of (by decide +kernel) rfl, gG_of (by decide +kernel) rfl⟩
def mX4_addFault : MX := (yX4_addFault, cX4_addFault, 3, some .int, (0, 0), (0, 0))
set_option maxRecDepth 100000 in
theorem ckX4_addFault : cOK mX4_addFault 2 := ⟨gG_of (by decide +kernel) rfl, gG_of (by decide +kernel) rfl, by decide +kernel⟩
set_option maxRecDepth 100000 in
theorem vkX4_addFault : vOK mX4_addFault 2 := ⟨ckX4_addFault, gG_of (by decide +kernel) rfl, gG_of (by decide +kernel) rfl⟩
def mX4_dropFaults : MX := (yX4_dropFaults, cX4_dropFaults, 2, some .int, (0, 0), (0, 0))
set_option maxRecDepth 100000 in
theorem ckX4_dropFaults : cOK mX4_dropFaults 0 := ⟨gG_of (by decide +kernel) rfl, gG_of (by decide +kernel) rfl, by decide +kernel⟩
set_option maxRecDepth 100000 in
theorem vkX4_dropFaults : vOK mX4_dropFaults 0 := ⟨ckX4_dropFaults, gG_of (by decide +kernel) rfl, gG_of (by decide +kernel) rfl⟩
def mX4_deliver : MX := (yX4_deliver, cX4_deliver, 3, some .boolean, (4, 90), (0, 0))
set_option maxRecDepth 100000 in
theorem ckX4_deliver : cOK mX4_deliver 1 := ⟨gG_of (by decide +kernel) rfl, gG_of (by decide +kernel) rfl, by decide +kernel⟩
set_option maxRecDepth 100000 in
theorem vkX4_deliver : vOK mX4_deliver 1 := ⟨ckX4_deliver, gG_of (by decide +kernel) rfl, gG_of (by decide +kernel) rfl⟩
def mX4_sendOnce : MX := (yX4_sendOnce, cX4_sendOnce, 3, some .int, (3, 68), (0, 0))
set_option maxRecDepth 100000 in
theorem ckX4_sendOnce : cOK mX4_sendOnce 1 := ⟨gG_of (by decide +kernel) rfl, gG_of (by decide +kernel) rfl, by decide +kernel⟩
set_option maxRecDepth 100000 in
theorem vkX4_sendOnce : vOK mX4_sendOnce 1 := ⟨ckX4_sendOnce, gG_of (by decide +kernel) rfl, gG_of (by decide +kernel) rfl⟩
def mX4_placeOfFinding : MX := (yX4_placeOfFinding, cX4_placeOfFinding, 2, some .int, (0, 0), (0, 0))
set_option maxRecDepth 100000 in
theorem ckX4_placeOfFinding : cOK mX4_placeOfFinding 1 := ⟨gG_of (by decide +kernel) rfl, gG_of (by decide +kernel) rfl, by decide +kernel⟩
set_option maxRecDepth 100000 in
theorem vkX4_placeOfFinding : vOK mX4_placeOfFinding 1 := ⟨ckX4_placeOfFinding, gG_of (by decide +kernel) rfl, gG_of (by decide +kernel) rfl⟩
def mX4_layOnWire : MX := (yX4_layOnWire, cX4_layOnWire, 5, none, (1, 23), (0, 0))
set_option maxRecDepth 100000 in
theorem ckX4_layOnWire : cOK mX4_layOnWire 0 := ⟨gG_of (by decide +kernel) rfl, gG_of (by decide +kernel) rfl, by decide +kernel⟩
set_option maxRecDepth 100000 in
theorem vkX4_layOnWire : vOK mX4_layOnWire 0 := ⟨ckX4_layOnWire, gG_of (by decide +kernel) rfl, gG_of (by decide +kernel) rfl⟩
def mX4_scrambled : MX := (yX4_scrambled, cX4_scrambled, 3, some .int, (0, 0), (0, 0))
set_option maxRecDepth 100000 in
theorem ckX4_scrambled : cOK mX4_scrambled 2 := ⟨gG_of (by decide +kernel) rfl, gG_of (by decide +kernel) rfl, by decide +kernel⟩
set_option maxRecDepth 100000 in
theorem vkX4_scrambled : vOK mX4_scrambled 2 := ⟨ckX4_scrambled, gG_of (by decide +kernel) rfl, gG_of (by decide +kernel) rfl⟩
def mX4_putBits : MX := (yX4_putBits, cX4_putBits, 3, none, (0, 0), (0, 0))
set_option maxRecDepth 100000 in
theorem ckX4_putBits : cOK mX4_putBits 1 := ⟨gG_of (by decide +kernel) rfl, gG_of (by decide +kernel) rfl, by decide +kernel⟩
set_option maxRecDepth 100000 in
theorem vkX4_putBits : vOK mX4_putBits 1 := ⟨ckX4_putBits, gG_of (by decide +kernel) rfl, gG_of (by decide +kernel) rfl⟩
def mX4_turnFaultyBits : MX := (yX4_turnFaultyBits, cX4_turnFaultyBits, 3, none, (0, 0), (0, 0))
set_option maxRecDepth 100000 in
theorem ckX4_turnFaultyBits : cOK mX4_turnFaultyBits 0 := ⟨gG_of (by decide +kernel) rfl, gG_of (by decide +kernel) rfl, by decide +kernel⟩
set_option maxRecDepth 100000 in
theorem vkX4_turnFaultyBits : vOK mX4_turnFaultyBits 0 := ⟨ckX4_turnFaultyBits, gG_of (by decide +kernel) rfl, gG_of (by decide +kernel) rfl⟩
def mX4_wordAt : MX := (yX4_wordAt, cX4_wordAt, 5, some .int, (0, 0), (0, 0))
set_option maxRecDepth 100000 in
theorem ckX4_wordAt : cOK mX4_wordAt 1 := ⟨gG_of (by decide +kernel) rfl, gG_of (by decide +kernel) rfl, by decide +kernel⟩
set_option maxRecDepth 100000 in
theorem vkX4_wordAt : vOK mX4_wordAt 1 := ⟨ckX4_wordAt, gG_of (by decide +kernel) rfl, gG_of (by decide +kernel) rfl⟩
def mX4_receive : MX := (yX4_receive, cX4_receive, 5, some .int, (2, 44), (0, 0))
set_option maxRecDepth 100000 in
theorem ckX4_receive : cOK mX4_receive 0 := ⟨gG_of (by decide +kernel) rfl, gG_of (by decide +kernel) rfl, by decide +kernel⟩
set_option maxRecDepth 100000 in
theorem vkX4_receive : vOK mX4_receive 0 := ⟨ckX4_receive, gG_of (by decide +kernel) rfl, gG_of (by decide +kernel) rfl⟩
def mX4_isMisplaced : MX := (yX4_isMisplaced, cX4_isMisplaced, 4, some .boolean, (0, 0), (0, 0))
set_option maxRecDepth 100000 in
theorem ckX4_isMisplaced : cOK mX4_isMisplaced 3 := ⟨gG_of (by decide +kernel) rfl, gG_of (by decide +kernel) rfl, by decide +kernel⟩
set_option maxRecDepth 100000 in
theorem vkX4_isMisplaced : vOK mX4_isMisplaced 3 := ⟨ckX4_isMisplaced, gG_of (by decide +kernel) rfl, gG_of (by decide +kernel) rfl⟩
def mX5_init : MX := (yX5_init, cX5_init, 2, none, (3, 65), (39, 1803))
set_option maxRecDepth 100000 in
theorem ckX5_init : cOK mX5_init 0 := ⟨gG_of (by decide +kernel) rfl, gG_of (by decide +kernel) rfl, by decide +kernel⟩
set_option maxRecDepth 100000 in
theorem ikX5_init : Cond.instanceMethod mX5_init.1 ∈ gG := gG_of (by decide +kernel) rfl
def mX5_encode : MX := (yX5_encode, cX5_encode, 3, some .int, (1, 23), (0, 0))
set_option maxRecDepth 100000 in
theorem ckX5_encode : cOK mX5_encode 2 := ⟨gG_of (by decide +kernel) rfl, gG_of (by decide +kernel) rfl, by decide +kernel⟩
set_option maxRecDepth 100000 in
theorem vkX5_encode : vOK mX5_encode 2 := ⟨ckX5_encode, gG_of (by decide +kernel) rfl, gG_of (by decide +kernel) rfl⟩
def mX5_decode : MX := (yX5_decode, cX5_decode, 4, some .int, (2, 44), (0, 0))
set_option maxRecDepth 100000 in
theorem ckX5_decode : cOK mX5_decode 2 := ⟨gG_of (by decide +kernel) rfl, gG_of (by decide +kernel) rfl, by decide +kernel⟩
set_option maxRecDepth 100000 in
theorem vkX5_decode : vOK mX5_decode 2 := ⟨ckX5_decode, gG_of (by decide +kernel) rfl, gG_of (by decide +kernel) rfl⟩
def mX5_draft : MX := (yX5_draft, cX5_draft, 2, some .int, (1, 21), (0, 0))
set_option maxRecDepth 100000 in
theorem ckX5_draft : cOK mX5_draft 1 := ⟨gG_of (by decide +kernel) rfl, gG_of (by decide +kernel) rfl, by decide +kernel⟩
set_option maxRecDepth 100000 in
theorem vkX5_draft : vOK mX5_draft 1 := ⟨ckX5_draft, gG_of (by decide +kernel) rfl, gG_of (by decide +kernel) rfl⟩
def mX5_check : MX := (yX5_check, cX5_check, 1, some .int, (1, 25), (0, 0))
set_option maxRecDepth 100000 in
theorem ckX5_check : cOK mX5_check 0 := ⟨gG_of (by decide +kernel) rfl, gG_of (by decide +kernel) rfl, by decide +kernel⟩
set_option maxRecDepth 100000 in
theorem vkX5_check : vOK mX5_check 0 := ⟨ckX5_check, gG_of (by decide +kernel) rfl, gG_of (by decide +kernel) rfl⟩
def mX5_test : MX := (yX5_test, cX5_test, 2, some .int, (4, 90), (0, 0))
set_option maxRecDepth 100000 in
theorem ckX5_test : cOK mX5_test 0 := ⟨gG_of (by decide +kernel) rfl, gG_of (by decide +kernel) rfl, by decide +kernel⟩
set_option maxRecDepth 100000 in
theorem vkX5_test : vOK mX5_test 0 := ⟨ckX5_test, gG_of (by decide +kernel) rfl, gG_of (by decide +kernel) rfl⟩
def mX5_wire : MX := (yX5_wire, cX5_wire, 2, some .int, (1, 21), (0, 0))
set_option maxRecDepth 100000 in
theorem ckX5_wire : cOK mX5_wire 1 := ⟨gG_of (by decide +kernel) rfl, gG_of (by decide +kernel) rfl, by decide +kernel⟩
set_option maxRecDepth 100000 in
theorem vkX5_wire : vOK mX5_wire 1 := ⟨ckX5_wire, gG_of (by decide +kernel) rfl, gG_of (by decide +kernel) rfl⟩
def mX5_finding : MX := (yX5_finding, cX5_finding, 2, some .int, (2, 42), (0, 0))
set_option maxRecDepth 100000 in
theorem ckX5_finding : cOK mX5_finding 1 := ⟨gG_of (by decide +kernel) rfl, gG_of (by decide +kernel) rfl, by decide +kernel⟩
set_option maxRecDepth 100000 in
theorem vkX5_finding : vOK mX5_finding 1 := ⟨ckX5_finding, gG_of (by decide +kernel) rfl, gG_of (by decide +kernel) rfl⟩
def mX5_plan : MX := (yX5_plan, cX5_plan, 3, some .int, (1, 22), (0, 0))
set_option maxRecDepth 100000 in
theorem ckX5_plan : cOK mX5_plan 2 := ⟨gG_of (by decide +kernel) rfl, gG_of (by decide +kernel) rfl, by decide +kernel⟩
set_option maxRecDepth 100000 in
theorem vkX5_plan : vOK mX5_plan 2 := ⟨ckX5_plan, gG_of (by decide +kernel) rfl, gG_of (by decide +kernel) rfl⟩
def mX5_calm : MX := (yX5_calm, cX5_calm, 1, some .int, (1, 21), (0, 0))
set_option maxRecDepth 100000 in
theorem ckX5_calm : cOK mX5_calm 0 := ⟨gG_of (by decide +kernel) rfl, gG_of (by decide +kernel) rfl, by decide +kernel⟩
set_option maxRecDepth 100000 in
theorem vkX5_calm : vOK mX5_calm 0 := ⟨ckX5_calm, gG_of (by decide +kernel) rfl, gG_of (by decide +kernel) rfl⟩
def mX5_read : MX := (yX5_read, cX5_read, 4, some .int, (2, 49), (0, 0))
set_option maxRecDepth 100000 in
theorem ckX5_read : cOK mX5_read 3 := ⟨gG_of (by decide +kernel) rfl, gG_of (by decide +kernel) rfl, by decide +kernel⟩
set_option maxRecDepth 100000 in
theorem vkX5_read : vOK mX5_read 3 := ⟨ckX5_read, gG_of (by decide +kernel) rfl, gG_of (by decide +kernel) rfl⟩
def mX5_write : MX := (yX5_write, cX5_write, 11, some .int, (2, 49), (0, 0))
set_option maxRecDepth 100000 in
theorem ckX5_write : cOK mX5_write 8 := ⟨gG_of (by decide +kernel) rfl, gG_of (by decide +kernel) rfl, by decide +kernel⟩
set_option maxRecDepth 100000 in
theorem vkX5_write : vOK mX5_write 8 := ⟨ckX5_write, gG_of (by decide +kernel) rfl, gG_of (by decide +kernel) rfl⟩
def mX5_flush : MX := (yX5_flush, cX5_flush, 2, some .int, (2, 49), (0, 0))
set_option maxRecDepth 100000 in
theorem ckX5_flush : cOK mX5_flush 1 := ⟨gG_of (by decide +kernel) rfl, gG_of (by decide +kernel) rfl, by decide +kernel⟩
set_option maxRecDepth 100000 in
theorem vkX5_flush : vOK mX5_flush 1 := ⟨ckX5_flush, gG_of (by decide +kernel) rfl, gG_of (by decide +kernel) rfl⟩
def mX5_step : MX := (yX5_step, cX5_step, 2, some .int, (6, 137), (0, 0))
set_option maxRecDepth 100000 in
theorem ckX5_step : cOK mX5_step 0 := ⟨gG_of (by decide +kernel) rfl, gG_of (by decide +kernel) rfl, by decide +kernel⟩
set_option maxRecDepth 100000 in
theorem vkX5_step : vOK mX5_step 0 := ⟨ckX5_step, gG_of (by decide +kernel) rfl, gG_of (by decide +kernel) rfl⟩
def mX5_drain : MX := (yX5_drain, cX5_drain, 2, some .int, (7, 158), (0, 0))
set_option maxRecDepth 100000 in
theorem ckX5_drain : cOK mX5_drain 0 := ⟨gG_of (by decide +kernel) rfl, gG_of (by decide +kernel) rfl, by decide +kernel⟩
set_option maxRecDepth 100000 in
theorem vkX5_drain : vOK mX5_drain 0 := ⟨ckX5_drain, gG_of (by decide +kernel) rfl, gG_of (by decide +kernel) rfl⟩
def mX5_result : MX := (yX5_result, cX5_result, 3, some .int, (2, 43), (0, 0))
set_option maxRecDepth 100000 in
theorem ckX5_result : cOK mX5_result 1 := ⟨gG_of (by decide +kernel) rfl, gG_of (by decide +kernel) rfl, by decide +kernel⟩
set_option maxRecDepth 100000 in
theorem vkX5_result : vOK mX5_result 1 := ⟨ckX5_result, gG_of (by decide +kernel) rfl, gG_of (by decide +kernel) rfl⟩
def mX5_got : MX := (yX5_got, cX5_got, 2, some .int, (0, 0), (0, 0))
set_option maxRecDepth 100000 in
theorem ckX5_got : cOK mX5_got 1 := ⟨gG_of (by decide +kernel) rfl, gG_of (by decide +kernel) rfl, by decide +kernel⟩
set_option maxRecDepth 100000 in
theorem vkX5_got : vOK mX5_got 1 := ⟨ckX5_got, gG_of (by decide +kernel) rfl, gG_of (by decide +kernel) rfl⟩
def mX5_way : MX := (yX5_way, cX5_way, 3, some .int, (0, 0), (0, 0))
set_option maxRecDepth 100000 in
theorem ckX5_way : cOK mX5_way 1 := ⟨gG_of (by decide +kernel) rfl, gG_of (by decide +kernel) rfl, by decide +kernel⟩
set_option maxRecDepth 100000 in
theorem vkX5_way : vOK mX5_way 1 := ⟨ckX5_way, gG_of (by decide +kernel) rfl, gG_of (by decide +kernel) rfl⟩
def mX5_cut : MX := (yX5_cut, cX5_cut, 5, some .int, (1, 21), (0, 0))
set_option maxRecDepth 100000 in
theorem ckX5_cut : cOK mX5_cut 0 := ⟨gG_of (by decide +kernel) rfl, gG_of (by decide +kernel) rfl, by decide +kernel⟩
set_option maxRecDepth 100000 in
theorem vkX5_cut : vOK mX5_cut 0 := ⟨ckX5_cut, gG_of (by decide +kernel) rfl, gG_of (by decide +kernel) rfl⟩
def mX5_sector : MX := (yX5_sector, cX5_sector, 3, some .int, (2, 44), (0, 0))
set_option maxRecDepth 100000 in
theorem ckX5_sector : cOK mX5_sector 2 := ⟨gG_of (by decide +kernel) rfl, gG_of (by decide +kernel) rfl, by decide +kernel⟩
set_option maxRecDepth 100000 in
theorem vkX5_sector : vOK mX5_sector 2 := ⟨ckX5_sector, gG_of (by decide +kernel) rfl, gG_of (by decide +kernel) rfl⟩
def mX5_cached : MX := (yX5_cached, cX5_cached, 2, some .int, (1, 21), (0, 0))
set_option maxRecDepth 100000 in
theorem ckX5_cached : cOK mX5_cached 1 := ⟨gG_of (by decide +kernel) rfl, gG_of (by decide +kernel) rfl, by decide +kernel⟩
set_option maxRecDepth 100000 in
theorem vkX5_cached : vOK mX5_cached 1 := ⟨ckX5_cached, gG_of (by decide +kernel) rfl, gG_of (by decide +kernel) rfl⟩
def mX5_state : MX := (yX5_state, cX5_state, 3, some .int, (1, 21), (0, 0))
set_option maxRecDepth 100000 in
theorem ckX5_state : cOK mX5_state 1 := ⟨gG_of (by decide +kernel) rfl, gG_of (by decide +kernel) rfl, by decide +kernel⟩
set_option maxRecDepth 100000 in
theorem vkX5_state : vOK mX5_state 1 := ⟨ckX5_state, gG_of (by decide +kernel) rfl, gG_of (by decide +kernel) rfl⟩
def mX5_count : MX := (yX5_count, cX5_count, 2, some .int, (1, 26), (0, 0))
set_option maxRecDepth 100000 in
theorem ckX5_count : cOK mX5_count 1 := ⟨gG_of (by decide +kernel) rfl, gG_of (by decide +kernel) rfl, by decide +kernel⟩
set_option maxRecDepth 100000 in
theorem vkX5_count : vOK mX5_count 1 := ⟨ckX5_count, gG_of (by decide +kernel) rfl, gG_of (by decide +kernel) rfl⟩
def mX5_commandOf : MX := (yX5_commandOf, cX5_commandOf, 2, some (.object "StoragePath$Command"), (0, 0), (0, 0))
set_option maxRecDepth 100000 in
theorem ckX5_commandOf : cOK mX5_commandOf 1 := ⟨gG_of (by decide +kernel) rfl, gG_of (by decide +kernel) rfl, by decide +kernel⟩
set_option maxRecDepth 100000 in
theorem vkX5_commandOf : vOK mX5_commandOf 1 := ⟨ckX5_commandOf, gG_of (by decide +kernel) rfl, gG_of (by decide +kernel) rfl⟩
def mX5_commandsAt : MX := (yX5_commandsAt, cX5_commandsAt, 7, some .int, (0, 0), (0, 0))
set_option maxRecDepth 100000 in
theorem ckX5_commandsAt : cOK mX5_commandsAt 1 := ⟨gG_of (by decide +kernel) rfl, gG_of (by decide +kernel) rfl, by decide +kernel⟩
set_option maxRecDepth 100000 in
theorem vkX5_commandsAt : vOK mX5_commandsAt 1 := ⟨ckX5_commandsAt, gG_of (by decide +kernel) rfl, gG_of (by decide +kernel) rfl⟩
def mX5_issue : MX := (yX5_issue, cX5_issue, 6, some .int, (1, 24), (0, 0))
set_option maxRecDepth 100000 in
theorem ckX5_issue : cOK mX5_issue 4 := ⟨gG_of (by decide +kernel) rfl, gG_of (by decide +kernel) rfl, by decide +kernel⟩
set_option maxRecDepth 100000 in
theorem vkX5_issue : vOK mX5_issue 4 := ⟨ckX5_issue, gG_of (by decide +kernel) rfl, gG_of (by decide +kernel) rfl⟩
def mX5_nextCommand : MX := (yX5_nextCommand, cX5_nextCommand, 6, some (.object "StoragePath$Command"), (2, 43), (0, 0))
set_option maxRecDepth 100000 in
theorem ckX5_nextCommand : cOK mX5_nextCommand 0 := ⟨gG_of (by decide +kernel) rfl, gG_of (by decide +kernel) rfl, by decide +kernel⟩
set_option maxRecDepth 100000 in
theorem vkX5_nextCommand : vOK mX5_nextCommand 0 := ⟨ckX5_nextCommand, gG_of (by decide +kernel) rfl, gG_of (by decide +kernel) rfl⟩
def mX5_goesAhead : MX := (yX5_goesAhead, cX5_goesAhead, 3, some .boolean, (1, 21), (0, 0))
set_option maxRecDepth 100000 in
theorem ckX5_goesAhead : cOK mX5_goesAhead 2 := ⟨gG_of (by decide +kernel) rfl, gG_of (by decide +kernel) rfl, by decide +kernel⟩
set_option maxRecDepth 100000 in
theorem vkX5_goesAhead : vOK mX5_goesAhead 2 := ⟨ckX5_goesAhead, gG_of (by decide +kernel) rfl, gG_of (by decide +kernel) rfl⟩
def mX5_distance : MX := (yX5_distance, cX5_distance, 2, some .int, (0, 0), (0, 0))
set_option maxRecDepth 100000 in
theorem ckX5_distance : cOK mX5_distance 1 := ⟨gG_of (by decide +kernel) rfl, gG_of (by decide +kernel) rfl, by decide +kernel⟩
set_option maxRecDepth 100000 in
theorem vkX5_distance : vOK mX5_distance 1 := ⟨ckX5_distance, gG_of (by decide +kernel) rfl, gG_of (by decide +kernel) rfl⟩
def mX5_carryOut : MX := (yX5_carryOut, cX5_carryOut, 6, some .int, (5, 112), (0, 0))
set_option maxRecDepth 100000 in
theorem ckX5_carryOut : cOK mX5_carryOut 1 := ⟨gG_of (by decide +kernel) rfl, gG_of (by decide +kernel) rfl, by decide +kernel⟩
set_option maxRecDepth 100000 in
theorem vkX5_carryOut : vOK mX5_carryOut 1 := ⟨ckX5_carryOut, gG_of (by decide +kernel) rfl, gG_of (by decide +kernel) rfl⟩
def mX5_keepNumber : MX := (yX5_keepNumber, cX5_keepNumber, 4, none, (2, 45), (0, 0))
set_option maxRecDepth 100000 in
theorem ckX5_keepNumber : cOK mX5_keepNumber 3 := ⟨gG_of (by decide +kernel) rfl, gG_of (by decide +kernel) rfl, by decide +kernel⟩
set_option maxRecDepth 100000 in
theorem vkX5_keepNumber : vOK mX5_keepNumber 3 := ⟨ckX5_keepNumber, gG_of (by decide +kernel) rfl, gG_of (by decide +kernel) rfl⟩
def mX6_init : MX := (yX6_init, cX6_init, 5, none, (1, 22), (21, 1714))
set_option maxRecDepth 100000 in
theorem ckX6_init : cOK mX6_init 0 := ⟨gG_of (by decide +kernel) rfl, gG_of (by decide +kernel) rfl, by decide +kernel⟩
set_option maxRecDepth 100000 in
theorem ikX6_init : Cond.instanceMethod mX6_init.1 ∈ gG := gG_of (by decide +kernel) rfl
def mX6_ones : MX := (yX6_ones, cX6_ones, 3, some .int, (0, 0), (0, 0))
set_option maxRecDepth 100000 in
theorem ckX6_ones : cOK mX6_ones 1 := ⟨gG_of (by decide +kernel) rfl, gG_of (by decide +kernel) rfl, by decide +kernel⟩
set_option maxRecDepth 100000 in
theorem skX6_ones : Cond.static mX6_ones.1 ∈ gG := gG_of (by decide +kernel) rfl
def mX6_in : MX := (yX6_in, cX6_in, 3, some .boolean, (0, 0), (0, 0))
set_option maxRecDepth 100000 in
theorem ckX6_in : cOK mX6_in 3 := ⟨gG_of (by decide +kernel) rfl, gG_of (by decide +kernel) rfl, by decide +kernel⟩
set_option maxRecDepth 100000 in
theorem skX6_in : Cond.static mX6_in.1 ∈ gG := gG_of (by decide +kernel) rfl
def mX6_isEven : MX := (yX6_isEven, cX6_isEven, 1, some .boolean, (0, 0), (0, 0))
set_option maxRecDepth 100000 in
theorem ckX6_isEven : cOK mX6_isEven 1 := ⟨gG_of (by decide +kernel) rfl, gG_of (by decide +kernel) rfl, by decide +kernel⟩
set_option maxRecDepth 100000 in
theorem skX6_isEven : Cond.static mX6_isEven.1 ∈ gG := gG_of (by decide +kernel) rfl
def mX6_wordOf : MX := (yX6_wordOf, cX6_wordOf, 4, some .int, (1, 20), (0, 0))
set_option maxRecDepth 100000 in
theorem ckX6_wordOf : cOK mX6_wordOf 2 := ⟨gG_of (by decide +kernel) rfl, gG_of (by decide +kernel) rfl, by decide +kernel⟩
set_option maxRecDepth 100000 in
theorem vkX6_wordOf : vOK mX6_wordOf 2 := ⟨ckX6_wordOf, gG_of (by decide +kernel) rfl, gG_of (by decide +kernel) rfl⟩
def mX6_unevenOf : MX := (yX6_unevenOf, cX6_unevenOf, 5, some .int, (0, 0), (0, 0))
set_option maxRecDepth 100000 in
theorem ckX6_unevenOf : cOK mX6_unevenOf 2 := ⟨gG_of (by decide +kernel) rfl, gG_of (by decide +kernel) rfl, by decide +kernel⟩
set_option maxRecDepth 100000 in
theorem vkX6_unevenOf : vOK mX6_unevenOf 2 := ⟨ckX6_unevenOf, gG_of (by decide +kernel) rfl, gG_of (by decide +kernel) rfl⟩
def mX6_encode : MX := (yX6_encode, cX6_encode, 3, some .int, (2, 43), (0, 0))
set_option maxRecDepth 100000 in
theorem ckX6_encode : cOK mX6_encode 2 := ⟨gG_of (by decide +kernel) rfl, gG_of (by decide +kernel) rfl, by decide +kernel⟩
set_option maxRecDepth 100000 in
theorem vkX6_encode : vOK mX6_encode 2 := ⟨ckX6_encode, gG_of (by decide +kernel) rfl, gG_of (by decide +kernel) rfl⟩
def mX6_valueOf : MX := (yX6_valueOf, cX6_valueOf, 4, some .int, (1, 24), (0, 0))
set_option maxRecDepth 100000 in
theorem ckX6_valueOf : cOK mX6_valueOf 2 := ⟨gG_of (by decide +kernel) rfl, gG_of (by decide +kernel) rfl, by decide +kernel⟩
set_option maxRecDepth 100000 in
theorem vkX6_valueOf : vOK mX6_valueOf 2 := ⟨ckX6_valueOf, gG_of (by decide +kernel) rfl, gG_of (by decide +kernel) rfl⟩
def mX6_decode : MX := (yX6_decode, cX6_decode, 3, some .int, (2, 47), (0, 0))
set_option maxRecDepth 100000 in
theorem ckX6_decode : cOK mX6_decode 2 := ⟨gG_of (by decide +kernel) rfl, gG_of (by decide +kernel) rfl, by decide +kernel⟩
set_option maxRecDepth 100000 in
theorem vkX6_decode : vOK mX6_decode 2 := ⟨ckX6_decode, gG_of (by decide +kernel) rfl, gG_of (by decide +kernel) rfl⟩
def mX6_draft : MX := (yX6_draft, cX6_draft, 2, some .int, (1, 22), (0, 0))
set_option maxRecDepth 100000 in
theorem ckX6_draft : cOK mX6_draft 1 := ⟨gG_of (by decide +kernel) rfl, gG_of (by decide +kernel) rfl, by decide +kernel⟩
set_option maxRecDepth 100000 in
theorem vkX6_draft : vOK mX6_draft 1 := ⟨ckX6_draft, gG_of (by decide +kernel) rfl, gG_of (by decide +kernel) rfl⟩
def mX6_checkByte : MX := (yX6_checkByte, cX6_checkByte, 5, some .int, (0, 0), (0, 0))
set_option maxRecDepth 100000 in
theorem ckX6_checkByte : cOK mX6_checkByte 2 := ⟨gG_of (by decide +kernel) rfl, gG_of (by decide +kernel) rfl, by decide +kernel⟩
set_option maxRecDepth 100000 in
theorem skX6_checkByte : Cond.static mX6_checkByte.1 ∈ gG := gG_of (by decide +kernel) rfl
def mX6_checkOf : MX := (yX6_checkOf, cX6_checkOf, 5, some .int, (1, 24), (0, 0))
set_option maxRecDepth 100000 in
theorem ckX6_checkOf : cOK mX6_checkOf 3 := ⟨gG_of (by decide +kernel) rfl, gG_of (by decide +kernel) rfl, by decide +kernel⟩
set_option maxRecDepth 100000 in
theorem skX6_checkOf : Cond.static mX6_checkOf.1 ∈ gG := gG_of (by decide +kernel) rfl
def mX6_check : MX := (yX6_check, cX6_check, 1, some .int, (2, 48), (0, 0))
set_option maxRecDepth 100000 in
theorem ckX6_check : cOK mX6_check 0 := ⟨gG_of (by decide +kernel) rfl, gG_of (by decide +kernel) rfl, by decide +kernel⟩
set_option maxRecDepth 100000 in
theorem vkX6_check : vOK mX6_check 0 := ⟨ckX6_check, gG_of (by decide +kernel) rfl, gG_of (by decide +kernel) rfl⟩
def mX6_nextScramble : MX := (yX6_nextScramble, cX6_nextScramble, 4, some .int, (0, 0), (0, 0))
set_option maxRecDepth 100000 in
theorem ckX6_nextScramble : cOK mX6_nextScramble 0 := ⟨gG_of (by decide +kernel) rfl, gG_of (by decide +kernel) rfl, by decide +kernel⟩
set_option maxRecDepth 100000 in
theorem vkX6_nextScramble : vOK mX6_nextScramble 0 := ⟨ckX6_nextScramble, gG_of (by decide +kernel) rfl, gG_of (by decide +kernel) rfl⟩
def mX6_wireWord : MX := (yX6_wireWord, cX6_wireWord, 4, none, (2, 43), (0, 0))
set_option maxRecDepth 100000 in
theorem ckX6_wireWord : cOK mX6_wireWord 1 := ⟨gG_of (by decide +kernel) rfl, gG_of (by decide +kernel) rfl, by decide +kernel⟩
set_option maxRecDepth 100000 in
theorem vkX6_wireWord : vOK mX6_wireWord 1 := ⟨ckX6_wireWord, gG_of (by decide +kernel) rfl, gG_of (by decide +kernel) rfl⟩
def mX6_layWire : MX := (yX6_layWire, cX6_layWire, 4, none, (3, 66), (0, 0))
set_option maxRecDepth 100000 in
theorem ckX6_layWire : cOK mX6_layWire 0 := ⟨gG_of (by decide +kernel) rfl, gG_of (by decide +kernel) rfl, by decide +kernel⟩
set_option maxRecDepth 100000 in
theorem vkX6_layWire : vOK mX6_layWire 0 := ⟨ckX6_layWire, gG_of (by decide +kernel) rfl, gG_of (by decide +kernel) rfl⟩
def mX6_findWord : MX := (yX6_findWord, cX6_findWord, 6, some .int, (2, 47), (0, 0))
set_option maxRecDepth 100000 in
theorem ckX6_findWord : cOK mX6_findWord 2 := ⟨gG_of (by decide +kernel) rfl, gG_of (by decide +kernel) rfl, by decide +kernel⟩
set_option maxRecDepth 100000 in
theorem vkX6_findWord : vOK mX6_findWord 2 := ⟨ckX6_findWord, gG_of (by decide +kernel) rfl, gG_of (by decide +kernel) rfl⟩
def mX6_receive : MX := (yX6_receive, cX6_receive, 4, some .int, (3, 72), (0, 0))
set_option maxRecDepth 100000 in
theorem ckX6_receive : cOK mX6_receive 0 := ⟨gG_of (by decide +kernel) rfl, gG_of (by decide +kernel) rfl, by decide +kernel⟩
set_option maxRecDepth 100000 in
theorem vkX6_receive : vOK mX6_receive 0 := ⟨ckX6_receive, gG_of (by decide +kernel) rfl, gG_of (by decide +kernel) rfl⟩
def mX6_sendOnce : MX := (yX6_sendOnce, cX6_sendOnce, 2, some .int, (4, 95), (0, 0))
set_option maxRecDepth 100000 in
theorem ckX6_sendOnce : cOK mX6_sendOnce 0 := ⟨gG_of (by decide +kernel) rfl, gG_of (by decide +kernel) rfl, by decide +kernel⟩
set_option maxRecDepth 100000 in
theorem vkX6_sendOnce : vOK mX6_sendOnce 0 := ⟨ckX6_sendOnce, gG_of (by decide +kernel) rfl, gG_of (by decide +kernel) rfl⟩
def mX6_send : MX := (yX6_send, cX6_send, 2, some .boolean, (5, 116), (0, 0))
set_option maxRecDepth 100000 in
theorem ckX6_send : cOK mX6_send 0 := ⟨gG_of (by decide +kernel) rfl, gG_of (by decide +kernel) rfl, by decide +kernel⟩
set_option maxRecDepth 100000 in
theorem vkX6_send : vOK mX6_send 0 := ⟨ckX6_send, gG_of (by decide +kernel) rfl, gG_of (by decide +kernel) rfl⟩
def mX6_test : MX := (yX6_test, cX6_test, 2, some .int, (5, 116), (0, 0))
set_option maxRecDepth 100000 in
theorem ckX6_test : cOK mX6_test 0 := ⟨gG_of (by decide +kernel) rfl, gG_of (by decide +kernel) rfl, by decide +kernel⟩
set_option maxRecDepth 100000 in
theorem vkX6_test : vOK mX6_test 0 := ⟨ckX6_test, gG_of (by decide +kernel) rfl, gG_of (by decide +kernel) rfl⟩
def mX6_wire : MX := (yX6_wire, cX6_wire, 2, some .int, (1, 22), (0, 0))
set_option maxRecDepth 100000 in
theorem ckX6_wire : cOK mX6_wire 1 := ⟨gG_of (by decide +kernel) rfl, gG_of (by decide +kernel) rfl, by decide +kernel⟩
set_option maxRecDepth 100000 in
theorem vkX6_wire : vOK mX6_wire 1 := ⟨ckX6_wire, gG_of (by decide +kernel) rfl, gG_of (by decide +kernel) rfl⟩
def mX6_finding : MX := (yX6_finding, cX6_finding, 2, some .int, (1, 22), (0, 0))
set_option maxRecDepth 100000 in
theorem ckX6_finding : cOK mX6_finding 1 := ⟨gG_of (by decide +kernel) rfl, gG_of (by decide +kernel) rfl, by decide +kernel⟩
set_option maxRecDepth 100000 in
theorem vkX6_finding : vOK mX6_finding 1 := ⟨ckX6_finding, gG_of (by decide +kernel) rfl, gG_of (by decide +kernel) rfl⟩
def mX6_plan : MX := (yX6_plan, cX6_plan, 3, some .int, (1, 22), (0, 0))
set_option maxRecDepth 100000 in
theorem ckX6_plan : cOK mX6_plan 2 := ⟨gG_of (by decide +kernel) rfl, gG_of (by decide +kernel) rfl, by decide +kernel⟩
set_option maxRecDepth 100000 in
theorem vkX6_plan : vOK mX6_plan 2 := ⟨ckX6_plan, gG_of (by decide +kernel) rfl, gG_of (by decide +kernel) rfl⟩
def mX6_calm : MX := (yX6_calm, cX6_calm, 2, some .int, (0, 0), (0, 0))
set_option maxRecDepth 100000 in
theorem ckX6_calm : cOK mX6_calm 0 := ⟨gG_of (by decide +kernel) rfl, gG_of (by decide +kernel) rfl, by decide +kernel⟩
set_option maxRecDepth 100000 in
theorem vkX6_calm : vOK mX6_calm 0 := ⟨ckX6_calm, gG_of (by decide +kernel) rfl, gG_of (by decide +kernel) rfl⟩
def mX6_isTag : MX := (yX6_isTag, cX6_isTag, 1, some .boolean, (1, 22), (0, 0))
set_option maxRecDepth 100000 in
theorem ckX6_isTag : cOK mX6_isTag 1 := ⟨gG_of (by decide +kernel) rfl, gG_of (by decide +kernel) rfl, by decide +kernel⟩
set_option maxRecDepth 100000 in
theorem skX6_isTag : Cond.static mX6_isTag.1 ∈ gG := gG_of (by decide +kernel) rfl
def mX6_issue : MX := (yX6_issue, cX6_issue, 5, some .int, (0, 0), (0, 0))
set_option maxRecDepth 100000 in
theorem ckX6_issue : cOK mX6_issue 4 := ⟨gG_of (by decide +kernel) rfl, gG_of (by decide +kernel) rfl, by decide +kernel⟩
set_option maxRecDepth 100000 in
theorem vkX6_issue : vOK mX6_issue 4 := ⟨ckX6_issue, gG_of (by decide +kernel) rfl, gG_of (by decide +kernel) rfl⟩
def mX6_against : MX := (yX6_against, cX6_against, 4, some .int, (2, 42), (0, 0))
set_option maxRecDepth 100000 in
theorem ckX6_against : cOK mX6_against 3 := ⟨gG_of (by decide +kernel) rfl, gG_of (by decide +kernel) rfl, by decide +kernel⟩
set_option maxRecDepth 100000 in
theorem vkX6_against : vOK mX6_against 3 := ⟨ckX6_against, gG_of (by decide +kernel) rfl, gG_of (by decide +kernel) rfl⟩
def mX6_read : MX := (yX6_read, cX6_read, 5, some .int, (3, 65), (0, 0))
set_option maxRecDepth 100000 in
theorem ckX6_read : cOK mX6_read 3 := ⟨gG_of (by decide +kernel) rfl, gG_of (by decide +kernel) rfl, by decide +kernel⟩
set_option maxRecDepth 100000 in
theorem vkX6_read : vOK mX6_read 3 := ⟨ckX6_read, gG_of (by decide +kernel) rfl, gG_of (by decide +kernel) rfl⟩
def mX6_write : MX := (yX6_write, cX6_write, 10, some .int, (3, 65), (0, 0))
set_option maxRecDepth 100000 in
theorem ckX6_write : cOK mX6_write 8 := ⟨gG_of (by decide +kernel) rfl, gG_of (by decide +kernel) rfl, by decide +kernel⟩
set_option maxRecDepth 100000 in
theorem vkX6_write : vOK mX6_write 8 := ⟨ckX6_write, gG_of (by decide +kernel) rfl, gG_of (by decide +kernel) rfl⟩
def mX6_flush : MX := (yX6_flush, cX6_flush, 3, some .int, (3, 65), (0, 0))
set_option maxRecDepth 100000 in
theorem ckX6_flush : cOK mX6_flush 1 := ⟨gG_of (by decide +kernel) rfl, gG_of (by decide +kernel) rfl, by decide +kernel⟩
set_option maxRecDepth 100000 in
theorem vkX6_flush : vOK mX6_flush 1 := ⟨ckX6_flush, gG_of (by decide +kernel) rfl, gG_of (by decide +kernel) rfl⟩
def mX6_placeOf : MX := (yX6_placeOf, cX6_placeOf, 3, some .int, (0, 0), (0, 0))
set_option maxRecDepth 100000 in
theorem ckX6_placeOf : cOK mX6_placeOf 1 := ⟨gG_of (by decide +kernel) rfl, gG_of (by decide +kernel) rfl, by decide +kernel⟩
set_option maxRecDepth 100000 in
theorem vkX6_placeOf : vOK mX6_placeOf 1 := ⟨ckX6_placeOf, gG_of (by decide +kernel) rfl, gG_of (by decide +kernel) rfl⟩
def mX6_leave : MX := (yX6_leave, cX6_leave, 3, none, (0, 0), (0, 0))
set_option maxRecDepth 100000 in
theorem ckX6_leave : cOK mX6_leave 1 := ⟨gG_of (by decide +kernel) rfl, gG_of (by decide +kernel) rfl, by decide +kernel⟩
set_option maxRecDepth 100000 in
theorem vkX6_leave : vOK mX6_leave 1 := ⟨ckX6_leave, gG_of (by decide +kernel) rfl, gG_of (by decide +kernel) rfl⟩
def mX6_lay : MX := (yX6_lay, cX6_lay, 2, none, (1, 22), (0, 0))
set_option maxRecDepth 100000 in
theorem ckX6_lay : cOK mX6_lay 1 := ⟨gG_of (by decide +kernel) rfl, gG_of (by decide +kernel) rfl, by decide +kernel⟩
set_option maxRecDepth 100000 in
theorem vkX6_lay : vOK mX6_lay 1 := ⟨ckX6_lay, gG_of (by decide +kernel) rfl, gG_of (by decide +kernel) rfl⟩
def mX6_reads : MX := (yX6_reads, cX6_reads, 3, some .int, (1, 22), (0, 0))
set_option maxRecDepth 100000 in
theorem ckX6_reads : cOK mX6_reads 1 := ⟨gG_of (by decide +kernel) rfl, gG_of (by decide +kernel) rfl, by decide +kernel⟩
set_option maxRecDepth 100000 in
theorem vkX6_reads : vOK mX6_reads 1 := ⟨ckX6_reads, gG_of (by decide +kernel) rfl, gG_of (by decide +kernel) rfl⟩
def mX6_written : MX := (yX6_written, cX6_written, 4, none, (2, 43), (0, 0))
set_option maxRecDepth 100000 in
theorem ckX6_written : cOK mX6_written 2 := ⟨gG_of (by decide +kernel) rfl, gG_of (by decide +kernel) rfl, by decide +kernel⟩
set_option maxRecDepth 100000 in
theorem vkX6_written : vOK mX6_written 2 := ⟨ckX6_written, gG_of (by decide +kernel) rfl, gG_of (by decide +kernel) rfl⟩
def mX6_through : MX := (yX6_through, cX6_through, 4, none, (1, 22), (0, 0))
set_option maxRecDepth 100000 in
theorem ckX6_through : cOK mX6_through 2 := ⟨gG_of (by decide +kernel) rfl, gG_of (by decide +kernel) rfl, by decide +kernel⟩
set_option maxRecDepth 100000 in
theorem vkX6_through : vOK mX6_through 2 := ⟨ckX6_through, gG_of (by decide +kernel) rfl, gG_of (by decide +kernel) rfl⟩
def mX6_three : MX := (yX6_three, cX6_three, 4, none, (0, 0), (0, 0))
set_option maxRecDepth 100000 in
theorem ckX6_three : cOK mX6_three 3 := ⟨gG_of (by decide +kernel) rfl, gG_of (by decide +kernel) rfl, by decide +kernel⟩
set_option maxRecDepth 100000 in
theorem vkX6_three : vOK mX6_three 3 := ⟨ckX6_three, gG_of (by decide +kernel) rfl, gG_of (by decide +kernel) rfl⟩
def mX6_number : MX := (yX6_number, cX6_number, 4, none, (0, 0), (0, 0))
set_option maxRecDepth 100000 in
theorem ckX6_number : cOK mX6_number 2 := ⟨gG_of (by decide +kernel) rfl, gG_of (by decide +kernel) rfl, by decide +kernel⟩
set_option maxRecDepth 100000 in
theorem vkX6_number : vOK mX6_number 2 := ⟨ckX6_number, gG_of (by decide +kernel) rfl, gG_of (by decide +kernel) rfl⟩
def mX6_lastOf : MX := (yX6_lastOf, cX6_lastOf, 3, some .int, (0, 0), (0, 0))
set_option maxRecDepth 100000 in
theorem ckX6_lastOf : cOK mX6_lastOf 3 := ⟨gG_of (by decide +kernel) rfl, gG_of (by decide +kernel) rfl, by decide +kernel⟩
set_option maxRecDepth 100000 in
theorem skX6_lastOf : Cond.static mX6_lastOf.1 ∈ gG := gG_of (by decide +kernel) rfl
def mX6_done : MX := (yX6_done, cX6_done, 4, some .int, (6, 137), (0, 0))
set_option maxRecDepth 100000 in
theorem ckX6_done : cOK mX6_done 1 := ⟨gG_of (by decide +kernel) rfl, gG_of (by decide +kernel) rfl, by decide +kernel⟩
set_option maxRecDepth 100000 in
theorem vkX6_done : vOK mX6_done 1 := ⟨ckX6_done, gG_of (by decide +kernel) rfl, gG_of (by decide +kernel) rfl⟩
def mX6_isAhead : MX := (yX6_isAhead, cX6_isAhead, 5, some .boolean, (0, 0), (0, 0))
set_option maxRecDepth 100000 in
theorem ckX6_isAhead : cOK mX6_isAhead 2 := ⟨gG_of (by decide +kernel) rfl, gG_of (by decide +kernel) rfl, by decide +kernel⟩
set_option maxRecDepth 100000 in
theorem vkX6_isAhead : vOK mX6_isAhead 2 := ⟨ckX6_isAhead, gG_of (by decide +kernel) rfl, gG_of (by decide +kernel) rfl⟩
def mX6_next : MX := (yX6_next, cX6_next, 3, some .int, (1, 24), (0, 0))
set_option maxRecDepth 100000 in
theorem ckX6_next : cOK mX6_next 0 := ⟨gG_of (by decide +kernel) rfl, gG_of (by decide +kernel) rfl, by decide +kernel⟩
set_option maxRecDepth 100000 in
theorem vkX6_next : vOK mX6_next 0 := ⟨ckX6_next, gG_of (by decide +kernel) rfl, gG_of (by decide +kernel) rfl⟩
def mX6_step : MX := (yX6_step, cX6_step, 2, some .int, (7, 160), (0, 0))
set_option maxRecDepth 100000 in
theorem ckX6_step : cOK mX6_step 0 := ⟨gG_of (by decide +kernel) rfl, gG_of (by decide +kernel) rfl, by decide +kernel⟩
set_option maxRecDepth 100000 in
theorem vkX6_step : vOK mX6_step 0 := ⟨ckX6_step, gG_of (by decide +kernel) rfl, gG_of (by decide +kernel) rfl⟩
def mX6_drain : MX := (yX6_drain, cX6_drain, 3, some .int, (8, 181), (0, 0))
set_option maxRecDepth 100000 in
theorem ckX6_drain : cOK mX6_drain 0 := ⟨gG_of (by decide +kernel) rfl, gG_of (by decide +kernel) rfl, by decide +kernel⟩
set_option maxRecDepth 100000 in
theorem vkX6_drain : vOK mX6_drain 0 := ⟨ckX6_drain, gG_of (by decide +kernel) rfl, gG_of (by decide +kernel) rfl⟩
def mX6_result : MX := (yX6_result, cX6_result, 3, some .int, (2, 42), (0, 0))
set_option maxRecDepth 100000 in
theorem ckX6_result : cOK mX6_result 1 := ⟨gG_of (by decide +kernel) rfl, gG_of (by decide +kernel) rfl, by decide +kernel⟩
set_option maxRecDepth 100000 in
theorem vkX6_result : vOK mX6_result 1 := ⟨ckX6_result, gG_of (by decide +kernel) rfl, gG_of (by decide +kernel) rfl⟩
def mX6_got : MX := (yX6_got, cX6_got, 2, some .int, (1, 22), (0, 0))
set_option maxRecDepth 100000 in
theorem ckX6_got : cOK mX6_got 1 := ⟨gG_of (by decide +kernel) rfl, gG_of (by decide +kernel) rfl, by decide +kernel⟩
set_option maxRecDepth 100000 in
theorem vkX6_got : vOK mX6_got 1 := ⟨ckX6_got, gG_of (by decide +kernel) rfl, gG_of (by decide +kernel) rfl⟩
def mX6_way : MX := (yX6_way, cX6_way, 3, some .int, (1, 22), (0, 0))
set_option maxRecDepth 100000 in
theorem ckX6_way : cOK mX6_way 1 := ⟨gG_of (by decide +kernel) rfl, gG_of (by decide +kernel) rfl, by decide +kernel⟩
set_option maxRecDepth 100000 in
theorem vkX6_way : vOK mX6_way 1 := ⟨ckX6_way, gG_of (by decide +kernel) rfl, gG_of (by decide +kernel) rfl⟩
def mX6_cut : MX := (yX6_cut, cX6_cut, 3, some .int, (0, 0), (0, 0))
set_option maxRecDepth 100000 in
theorem ckX6_cut : cOK mX6_cut 0 := ⟨gG_of (by decide +kernel) rfl, gG_of (by decide +kernel) rfl, by decide +kernel⟩
set_option maxRecDepth 100000 in
theorem vkX6_cut : vOK mX6_cut 0 := ⟨ckX6_cut, gG_of (by decide +kernel) rfl, gG_of (by decide +kernel) rfl⟩
def mX6_sector : MX := (yX6_sector, cX6_sector, 3, some .int, (2, 44), (0, 0))
set_option maxRecDepth 100000 in
theorem ckX6_sector : cOK mX6_sector 2 := ⟨gG_of (by decide +kernel) rfl, gG_of (by decide +kernel) rfl, by decide +kernel⟩
set_option maxRecDepth 100000 in
theorem vkX6_sector : vOK mX6_sector 2 := ⟨ckX6_sector, gG_of (by decide +kernel) rfl, gG_of (by decide +kernel) rfl⟩
def mX6_cached : MX := (yX6_cached, cX6_cached, 2, some .int, (1, 22), (0, 0))
set_option maxRecDepth 100000 in
theorem ckX6_cached : cOK mX6_cached 1 := ⟨gG_of (by decide +kernel) rfl, gG_of (by decide +kernel) rfl, by decide +kernel⟩
set_option maxRecDepth 100000 in
theorem vkX6_cached : vOK mX6_cached 1 := ⟨ckX6_cached, gG_of (by decide +kernel) rfl, gG_of (by decide +kernel) rfl⟩
def mX6_state : MX := (yX6_state, cX6_state, 2, some .int, (2, 42), (0, 0))
set_option maxRecDepth 100000 in
theorem ckX6_state : cOK mX6_state 1 := ⟨gG_of (by decide +kernel) rfl, gG_of (by decide +kernel) rfl, by decide +kernel⟩
set_option maxRecDepth 100000 in
theorem vkX6_state : vOK mX6_state 1 := ⟨ckX6_state, gG_of (by decide +kernel) rfl, gG_of (by decide +kernel) rfl⟩
def mX6_tags : MX := (yX6_tags, cX6_tags, 4, some .int, (0, 0), (0, 0))
set_option maxRecDepth 100000 in
theorem ckX6_tags : cOK mX6_tags 1 := ⟨gG_of (by decide +kernel) rfl, gG_of (by decide +kernel) rfl, by decide +kernel⟩
set_option maxRecDepth 100000 in
theorem vkX6_tags : vOK mX6_tags 1 := ⟨ckX6_tags, gG_of (by decide +kernel) rfl, gG_of (by decide +kernel) rfl⟩
def mX6_count : MX := (yX6_count, cX6_count, 2, some .int, (1, 23), (0, 0))
set_option maxRecDepth 100000 in
theorem ckX6_count : cOK mX6_count 1 := ⟨gG_of (by decide +kernel) rfl, gG_of (by decide +kernel) rfl, by decide +kernel⟩
set_option maxRecDepth 100000 in
theorem vkX6_count : vOK mX6_count 1 := ⟨ckX6_count, gG_of (by decide +kernel) rfl, gG_of (by decide +kernel) rfl⟩
def mJ6_bitCount_0f7a4 : MX := (yJ6_bitCount_0f7a4, cJ6_bitCount_0f7a4, 1, some .int, (0, 0), (0, 0))
set_option maxRecDepth 100000 in
theorem ckJ6_bitCount_0f7a4 : cOK mJ6_bitCount_0f7a4 1 := ⟨gG_of (by decide +kernel) rfl, gG_of (by decide +kernel) rfl, by decide +kernel⟩
set_option maxRecDepth 100000 in
theorem skJ6_bitCount_0f7a4 : Cond.static mJ6_bitCount_0f7a4.1 ∈ gG := gG_of (by decide +kernel) rfl
set_option maxRecDepth 100000 in
theorem cnJ6_265 : Cond.constant RJ6 265 (1431655765) ∈ gG := gG_of (by decide +kernel) rfl
set_option maxRecDepth 100000 in
theorem cnJ6_266 : Cond.constant RJ6 266 (858993459) ∈ gG := gG_of (by decide +kernel) rfl
set_option maxRecDepth 100000 in
theorem cnJ6_267 : Cond.constant RJ6 267 (252645135) ∈ gG := gG_of (by decide +kernel) rfl
set_option maxRecDepth 100000 in
theorem mlX0_3 : Cond.methodLink RX0 3 objectInit ∈ gG := gG_of (by decide +kernel) rfl
set_option maxRecDepth 100000 in
theorem fwX0_9 : FW RX0 9 0 0 := ⟨by decide, by decide, Or.inl (gG_of (by decide +kernel) rfl)⟩
set_option maxRecDepth 100000 in
theorem fwX0_15 : FW RX0 15 0 1 := ⟨by decide, by decide, Or.inl (gG_of (by decide +kernel) rfl)⟩
set_option maxRecDepth 100000 in
theorem mlX0_19 : Cond.methodLink RX0 19 yX0_add ∈ gG := gG_of (by decide +kernel) rfl
set_option maxRecDepth 100000 in
theorem mlX0_23 : Cond.methodLink RX0 23 yX0_clear ∈ gG := gG_of (by decide +kernel) rfl
set_option maxRecDepth 100000 in
theorem mlX0_26 : Cond.methodLink RX0 26 yX0_at ∈ gG := gG_of (by decide +kernel) rfl
set_option maxRecDepth 100000 in
theorem fwX0_30 : FW RX0 30 2 3 := ⟨by decide, by decide, Or.inr ⟨"StoragePath", by decide +kernel⟩⟩
set_option maxRecDepth 100000 in
theorem fwX0_35 : FW RX0 35 2 0 := ⟨by decide, by decide, Or.inr ⟨"StoragePath", by decide +kernel⟩⟩
set_option maxRecDepth 100000 in
theorem fwX0_38 : FW RX0 38 2 4 := ⟨by decide, by decide, Or.inr ⟨"StoragePath", by decide +kernel⟩⟩
set_option maxRecDepth 100000 in
theorem fwX0_41 : FW RX0 41 2 5 := ⟨by decide, by decide, Or.inr ⟨"StoragePath", by decide +kernel⟩⟩
set_option maxRecDepth 100000 in
theorem mlX0_44 : Cond.methodLink RX0 44 yX0_addNumber ∈ gG := gG_of (by decide +kernel) rfl
set_option maxRecDepth 100000 in
theorem cnX0_47 : Cond.constant RX0 47 (1378996274) ∈ gG := gG_of (by decide +kernel) rfl
set_option maxRecDepth 100000 in
theorem cnX0_48 : Cond.constant RX0 48 (79764919) ∈ gG := gG_of (by decide +kernel) rfl
set_option maxRecDepth 100000 in
theorem mlX1_3 : Cond.methodLink RX1 3 objectInit ∈ gG := gG_of (by decide +kernel) rfl
set_option maxRecDepth 100000 in
theorem fwX1_9 : FW RX1 9 1 0 := ⟨by decide, by decide, Or.inl (gG_of (by decide +kernel) rfl)⟩
set_option maxRecDepth 100000 in
theorem fwX1_15 : FW RX1 15 1 1 := ⟨by decide, by decide, Or.inl (gG_of (by decide +kernel) rfl)⟩
set_option maxRecDepth 100000 in
theorem mlX1_18 : Cond.methodLink RX1 18 yJ6_bitCount_0f7a4 ∈ gG := gG_of (by decide +kernel) rfl
set_option maxRecDepth 100000 in
theorem mlX2_3 : Cond.methodLink RX2 3 objectInit ∈ gG := gG_of (by decide +kernel) rfl
set_option maxRecDepth 100000 in
theorem fwX2_9 : FW RX2 9 2 1 := ⟨by decide, by decide, Or.inl (gG_of (by decide +kernel) rfl)⟩
set_option maxRecDepth 100000 in
theorem fwX2_15 : FW RX2 15 2 2 := ⟨by decide, by decide, Or.inl (gG_of (by decide +kernel) rfl)⟩
set_option maxRecDepth 100000 in
theorem fwX2_19 : FW RX2 19 2 0 := ⟨by decide, by decide, Or.inl (gG_of (by decide +kernel) rfl)⟩
set_option maxRecDepth 100000 in
theorem fwX2_22 : FW RX2 22 2 3 := ⟨by decide, by decide, Or.inl (gG_of (by decide +kernel) rfl)⟩
set_option maxRecDepth 100000 in
theorem fwX2_25 : FW RX2 25 2 4 := ⟨by decide, by decide, Or.inl (gG_of (by decide +kernel) rfl)⟩
set_option maxRecDepth 100000 in
theorem fwX2_28 : FW RX2 28 2 5 := ⟨by decide, by decide, Or.inl (gG_of (by decide +kernel) rfl)⟩
set_option maxRecDepth 100000 in
theorem fwX2_31 : FW RX2 31 2 6 := ⟨by decide, by decide, Or.inl (gG_of (by decide +kernel) rfl)⟩
set_option maxRecDepth 100000 in
theorem fwX2_34 : FW RX2 34 2 7 := ⟨by decide, by decide, Or.inl (gG_of (by decide +kernel) rfl)⟩
set_option maxRecDepth 100000 in
theorem mlX2_37 : Cond.methodLink RX2 37 yX2_setNumber ∈ gG := gG_of (by decide +kernel) rfl
set_option maxRecDepth 100000 in
theorem mlX2_41 : Cond.methodLink RX2 41 yX2_numberAt ∈ gG := gG_of (by decide +kernel) rfl
set_option maxRecDepth 100000 in
theorem mlX3_3 : Cond.methodLink RX3 3 objectInit ∈ gG := gG_of (by decide +kernel) rfl
set_option maxRecDepth 100000 in
theorem fwX3_9 : FW RX3 9 3 0 := ⟨by decide, by decide, Or.inl (gG_of (by decide +kernel) rfl)⟩
set_option maxRecDepth 100000 in
theorem fwX3_15 : FW RX3 15 3 1 := ⟨by decide, by decide, Or.inl (gG_of (by decide +kernel) rfl)⟩
set_option maxRecDepth 100000 in
theorem fwX3_18 : FW RX3 18 3 2 := ⟨by decide, by decide, Or.inl (gG_of (by decide +kernel) rfl)⟩
set_option maxRecDepth 100000 in
theorem mlX3_21 : Cond.methodLink RX3 21 yX3_placeInCache ∈ gG := gG_of (by decide +kernel) rfl
set_option maxRecDepth 100000 in
theorem mlX3_25 : Cond.methodLink RX3 25 yX3_numberOnDisk ∈ gG := gG_of (by decide +kernel) rfl
set_option maxRecDepth 100000 in
theorem fwX3_28 : FW RX3 28 3 3 := ⟨by decide, by decide, Or.inl (gG_of (by decide +kernel) rfl)⟩
set_option maxRecDepth 100000 in
theorem mlX3_32 : Cond.methodLink RX3 32 yX3_putOnDisk ∈ gG := gG_of (by decide +kernel) rfl
set_option maxRecDepth 100000 in
theorem mlX3_36 : Cond.methodLink RX3 36 yX3_removeFromCache ∈ gG := gG_of (by decide +kernel) rfl
set_option maxRecDepth 100000 in
theorem mlX4_3 : Cond.methodLink RX4 3 objectInit ∈ gG := gG_of (by decide +kernel) rfl
set_option maxRecDepth 100000 in
theorem fwX4_9 : FW RX4 9 4 1 := ⟨by decide, by decide, Or.inl (gG_of (by decide +kernel) rfl)⟩
set_option maxRecDepth 100000 in
theorem mlX4_17 : Cond.methodLink RX4 17 yX0_init ∈ gG ∨ ∃ host, Cond.methodLinkNest RX4 17 yX0_init host ∈ lw_tbl := Or.inr ⟨"StoragePath", by decide +kernel⟩
set_option maxRecDepth 100000 in
theorem fwX4_18 : FW RX4 18 4 2 := ⟨by decide, by decide, Or.inl (gG_of (by decide +kernel) rfl)⟩
set_option maxRecDepth 100000 in
theorem fwX4_22 : FW RX4 22 4 3 := ⟨by decide, by decide, Or.inl (gG_of (by decide +kernel) rfl)⟩
set_option maxRecDepth 100000 in
theorem fwX4_25 : FW RX4 25 4 4 := ⟨by decide, by decide, Or.inl (gG_of (by decide +kernel) rfl)⟩
set_option maxRecDepth 100000 in
theorem fwX4_28 : FW RX4 28 4 6 := ⟨by decide, by decide, Or.inl (gG_of (by decide +kernel) rfl)⟩
set_option maxRecDepth 100000 in
theorem fwX4_31 : FW RX4 31 4 7 := ⟨by decide, by decide, Or.inl (gG_of (by decide +kernel) rfl)⟩
set_option maxRecDepth 100000 in
theorem fwX4_34 : FW RX4 34 4 9 := ⟨by decide, by decide, Or.inl (gG_of (by decide +kernel) rfl)⟩
set_option maxRecDepth 100000 in
theorem fwX4_37 : FW RX4 37 4 0 := ⟨by decide, by decide, Or.inl (gG_of (by decide +kernel) rfl)⟩
set_option maxRecDepth 100000 in
theorem cnX4_41 : Cond.constant RX4 41 (65535) ∈ gG := gG_of (by decide +kernel) rfl
set_option maxRecDepth 100000 in
theorem cnX4_42 : Cond.constant RX4 42 (40977) ∈ gG := gG_of (by decide +kernel) rfl
set_option maxRecDepth 100000 in
theorem fwX4_43 : FW RX4 43 4 5 := ⟨by decide, by decide, Or.inl (gG_of (by decide +kernel) rfl)⟩
set_option maxRecDepth 100000 in
theorem fwX4_47 : FW RX4 47 4 10 := ⟨by decide, by decide, Or.inl (gG_of (by decide +kernel) rfl)⟩
set_option maxRecDepth 100000 in
theorem mlX4_50 : Cond.methodLink RX4 50 yX4_placeOfFinding ∈ gG := gG_of (by decide +kernel) rfl
set_option maxRecDepth 100000 in
theorem fwX4_54 : FW RX4 54 4 8 := ⟨by decide, by decide, Or.inl (gG_of (by decide +kernel) rfl)⟩
set_option maxRecDepth 100000 in
theorem mlX4_57 : Cond.methodLink RX4 57 yX4_sendOnce ∈ gG := gG_of (by decide +kernel) rfl
set_option maxRecDepth 100000 in
theorem fwX4_61 : FW RX4 61 4 12 := ⟨by decide, by decide, Or.inl (gG_of (by decide +kernel) rfl)⟩
set_option maxRecDepth 100000 in
theorem mlX4_64 : Cond.methodLink RX4 64 yX0_copy ∈ gG := gG_of (by decide +kernel) rfl
set_option maxRecDepth 100000 in
theorem mlX4_68 : Cond.methodLink RX4 68 yX0_size ∈ gG := gG_of (by decide +kernel) rfl
set_option maxRecDepth 100000 in
theorem mlX4_72 : Cond.methodLink RX4 72 yX0_checksum ∈ gG := gG_of (by decide +kernel) rfl
set_option maxRecDepth 100000 in
theorem mlX4_75 : Cond.methodLink RX4 75 yX0_addNumber ∈ gG := gG_of (by decide +kernel) rfl
set_option maxRecDepth 100000 in
theorem mlX4_79 : Cond.methodLink RX4 79 yX4_layOnWire ∈ gG := gG_of (by decide +kernel) rfl
set_option maxRecDepth 100000 in
theorem mlX4_82 : Cond.methodLink RX4 82 yX4_turnFaultyBits ∈ gG := gG_of (by decide +kernel) rfl
set_option maxRecDepth 100000 in
theorem mlX4_85 : Cond.methodLink RX4 85 yX4_receive ∈ gG := gG_of (by decide +kernel) rfl
set_option maxRecDepth 100000 in
theorem fwX4_88 : FW RX4 88 4 11 := ⟨by decide, by decide, Or.inl (gG_of (by decide +kernel) rfl)⟩
set_option maxRecDepth 100000 in
theorem mlX4_91 : Cond.methodLink RX4 91 yX0_at ∈ gG := gG_of (by decide +kernel) rfl
set_option maxRecDepth 100000 in
theorem mlX4_94 : Cond.methodLink RX4 94 yX4_scrambled ∈ gG := gG_of (by decide +kernel) rfl
set_option maxRecDepth 100000 in
theorem mlX4_98 : Cond.methodLink RX4 98 yX1_wordOf ∈ gG := gG_of (by decide +kernel) rfl
set_option maxRecDepth 100000 in
theorem mlX4_104 : Cond.methodLink RX4 104 yX4_putBits ∈ gG := gG_of (by decide +kernel) rfl
set_option maxRecDepth 100000 in
theorem mlX4_107 : Cond.methodLink RX4 107 yX0_clear ∈ gG := gG_of (by decide +kernel) rfl
set_option maxRecDepth 100000 in
theorem mlX4_110 : Cond.methodLink RX4 110 yX4_wordAt ∈ gG := gG_of (by decide +kernel) rfl
set_option maxRecDepth 100000 in
theorem mlX4_113 : Cond.methodLink RX4 113 yX1_valueOf ∈ gG := gG_of (by decide +kernel) rfl
set_option maxRecDepth 100000 in
theorem mlX4_116 : Cond.methodLink RX4 116 yX4_isMisplaced ∈ gG := gG_of (by decide +kernel) rfl
set_option maxRecDepth 100000 in
theorem mlX4_120 : Cond.methodLink RX4 120 yX0_add ∈ gG := gG_of (by decide +kernel) rfl
set_option maxRecDepth 100000 in
theorem mlX4_123 : Cond.methodLink RX4 123 yX0_numberAt ∈ gG := gG_of (by decide +kernel) rfl
set_option maxRecDepth 100000 in
theorem mlX5_1 : Cond.methodLink RX5 1 objectInit ∈ gG := gG_of (by decide +kernel) rfl
set_option maxRecDepth 100000 in
theorem mlX5_9 : Cond.methodLink RX5 9 yX1_init ∈ gG := gG_of (by decide +kernel) rfl
set_option maxRecDepth 100000 in
theorem fwX5_10 : FW RX5 10 5 0 := ⟨by decide, by decide, Or.inl (gG_of (by decide +kernel) rfl)⟩
set_option maxRecDepth 100000 in
theorem mlX5_18 : Cond.methodLink RX5 18 yX4_init ∈ gG := gG_of (by decide +kernel) rfl
set_option maxRecDepth 100000 in
theorem fwX5_21 : FW RX5 21 5 1 := ⟨by decide, by decide, Or.inl (gG_of (by decide +kernel) rfl)⟩
set_option maxRecDepth 100000 in
theorem mlX5_27 : Cond.methodLink RX5 27 yX3_init ∈ gG ∨ ∃ host, Cond.methodLinkNest RX5 27 yX3_init host ∈ lw_tbl := Or.inr ⟨"StoragePath", by decide +kernel⟩
set_option maxRecDepth 100000 in
theorem fwX5_28 : FW RX5 28 5 2 := ⟨by decide, by decide, Or.inl (gG_of (by decide +kernel) rfl)⟩
set_option maxRecDepth 100000 in
theorem mlX5_34 : Cond.methodLink RX5 34 yX0_init ∈ gG ∨ ∃ host, Cond.methodLinkNest RX5 34 yX0_init host ∈ lw_tbl := Or.inr ⟨"StoragePath", by decide +kernel⟩
set_option maxRecDepth 100000 in
theorem fwX5_35 : FW RX5 35 5 3 := ⟨by decide, by decide, Or.inl (gG_of (by decide +kernel) rfl)⟩
set_option maxRecDepth 100000 in
theorem fwX5_39 : FW RX5 39 5 4 := ⟨by decide, by decide, Or.inl (gG_of (by decide +kernel) rfl)⟩
set_option maxRecDepth 100000 in
theorem fwX5_44 : FW RX5 44 5 5 := ⟨by decide, by decide, Or.inl (gG_of (by decide +kernel) rfl)⟩
set_option maxRecDepth 100000 in
theorem fwX5_48 : FW RX5 48 5 6 := ⟨by decide, by decide, Or.inl (gG_of (by decide +kernel) rfl)⟩
set_option maxRecDepth 100000 in
theorem fwX5_52 : FW RX5 52 5 7 := ⟨by decide, by decide, Or.inl (gG_of (by decide +kernel) rfl)⟩
set_option maxRecDepth 100000 in
theorem mlX5_56 : Cond.methodLink RX5 56 yX2_init ∈ gG := gG_of (by decide +kernel) rfl
set_option maxRecDepth 100000 in
theorem mlX5_59 : Cond.methodLink RX5 59 yX1_wordOf ∈ gG := gG_of (by decide +kernel) rfl
set_option maxRecDepth 100000 in
theorem mlX5_63 : Cond.methodLink RX5 63 yX1_valueOf ∈ gG := gG_of (by decide +kernel) rfl
set_option maxRecDepth 100000 in
theorem mlX5_66 : Cond.methodLink RX5 66 yX0_size ∈ gG := gG_of (by decide +kernel) rfl
set_option maxRecDepth 100000 in
theorem mlX5_70 : Cond.methodLink RX5 70 yX0_add ∈ gG := gG_of (by decide +kernel) rfl
set_option maxRecDepth 100000 in
theorem mlX5_73 : Cond.methodLink RX5 73 yX0_checksum ∈ gG := gG_of (by decide +kernel) rfl
set_option maxRecDepth 100000 in
theorem mlX5_77 : Cond.methodLink RX5 77 yX4_sendOnce ∈ gG := gG_of (by decide +kernel) rfl
set_option maxRecDepth 100000 in
theorem mlX5_81 : Cond.methodLink RX5 81 yX0_clear ∈ gG := gG_of (by decide +kernel) rfl
set_option maxRecDepth 100000 in
theorem mlX5_84 : Cond.methodLink RX5 84 yX4_bitAt ∈ gG := gG_of (by decide +kernel) rfl
set_option maxRecDepth 100000 in
theorem mlX5_87 : Cond.methodLink RX5 87 yX4_findingFromEnd ∈ gG := gG_of (by decide +kernel) rfl
set_option maxRecDepth 100000 in
theorem cnX5_90 : Cond.constant RX5 90 (1000000) ∈ gG := gG_of (by decide +kernel) rfl
set_option maxRecDepth 100000 in
theorem mlX5_91 : Cond.methodLink RX5 91 yX4_addFault ∈ gG := gG_of (by decide +kernel) rfl
set_option maxRecDepth 100000 in
theorem mlX5_95 : Cond.methodLink RX5 95 yX4_dropFaults ∈ gG := gG_of (by decide +kernel) rfl
set_option maxRecDepth 100000 in
theorem mlX5_98 : Cond.methodLink RX5 98 yX5_issue ∈ gG := gG_of (by decide +kernel) rfl
set_option maxRecDepth 100000 in
theorem mlX5_102 : Cond.methodLink RX5 102 yX5_commandOf ∈ gG := gG_of (by decide +kernel) rfl
set_option maxRecDepth 100000 in
theorem mlX5_106 : Cond.methodLink RX5 106 yX2_setNumbers ∈ gG := gG_of (by decide +kernel) rfl
set_option maxRecDepth 100000 in
theorem mlX5_110 : Cond.methodLink RX5 110 yX5_nextCommand ∈ gG := gG_of (by decide +kernel) rfl
set_option maxRecDepth 100000 in
theorem mlX5_114 : Cond.methodLink RX5 114 yX2_lastSector ∈ gG := gG_of (by decide +kernel) rfl
set_option maxRecDepth 100000 in
theorem fwX5_117 : FW RX5 117 5 8 := ⟨by decide, by decide, Or.inl (gG_of (by decide +kernel) rfl)⟩
set_option maxRecDepth 100000 in
theorem mlX5_120 : Cond.methodLink RX5 120 yX5_carryOut ∈ gG := gG_of (by decide +kernel) rfl
set_option maxRecDepth 100000 in
theorem mlX5_124 : Cond.methodLink RX5 124 yX2_end ∈ gG := gG_of (by decide +kernel) rfl
set_option maxRecDepth 100000 in
theorem fwX5_127 : FW RX5 127 2 0 := ⟨by decide, by decide, Or.inr ⟨"StoragePath", by decide +kernel⟩⟩
set_option maxRecDepth 100000 in
theorem mlX5_130 : Cond.methodLink RX5 130 yX5_step ∈ gG := gG_of (by decide +kernel) rfl
set_option maxRecDepth 100000 in
theorem fwX5_133 : FW RX5 133 2 2 := ⟨by decide, by decide, Or.inr ⟨"StoragePath", by decide +kernel⟩⟩
set_option maxRecDepth 100000 in
theorem fwX5_136 : FW RX5 136 2 3 := ⟨by decide, by decide, Or.inr ⟨"StoragePath", by decide +kernel⟩⟩
set_option maxRecDepth 100000 in
theorem fwX5_139 : FW RX5 139 2 7 := ⟨by decide, by decide, Or.inr ⟨"StoragePath", by decide +kernel⟩⟩
set_option maxRecDepth 100000 in
theorem mlX5_142 : Cond.methodLink RX5 142 yX2_copyNumbers ∈ gG := gG_of (by decide +kernel) rfl
set_option maxRecDepth 100000 in
theorem mlX5_146 : Cond.methodLink RX5 146 yX3_dropCache ∈ gG := gG_of (by decide +kernel) rfl
set_option maxRecDepth 100000 in
theorem mlX5_149 : Cond.methodLink RX5 149 yX3_numberAsRead ∈ gG := gG_of (by decide +kernel) rfl
set_option maxRecDepth 100000 in
theorem mlX5_152 : Cond.methodLink RX5 152 yX3_numberOnDisk ∈ gG := gG_of (by decide +kernel) rfl
set_option maxRecDepth 100000 in
theorem mlX5_155 : Cond.methodLink RX5 155 yX3_sectorAtPlace ∈ gG := gG_of (by decide +kernel) rfl
set_option maxRecDepth 100000 in
theorem fwX5_158 : FW RX5 158 4 10 := ⟨by decide, by decide, Or.inr ⟨"StoragePath", by decide +kernel⟩⟩
set_option maxRecDepth 100000 in
theorem fwX5_161 : FW RX5 161 4 11 := ⟨by decide, by decide, Or.inr ⟨"StoragePath", by decide +kernel⟩⟩
set_option maxRecDepth 100000 in
theorem fwX5_164 : FW RX5 164 4 12 := ⟨by decide, by decide, Or.inr ⟨"StoragePath", by decide +kernel⟩⟩
set_option maxRecDepth 100000 in
theorem fwX5_167 : FW RX5 167 4 8 := ⟨by decide, by decide, Or.inr ⟨"StoragePath", by decide +kernel⟩⟩
set_option maxRecDepth 100000 in
theorem fwX5_170 : FW RX5 170 3 3 := ⟨by decide, by decide, Or.inr ⟨"StoragePath", by decide +kernel⟩⟩
set_option maxRecDepth 100000 in
theorem mlX5_173 : Cond.methodLink RX5 173 yX5_commandsAt ∈ gG := gG_of (by decide +kernel) rfl
set_option maxRecDepth 100000 in
theorem fwX5_176 : FW RX5 176 4 5 := ⟨by decide, by decide, Or.inr ⟨"StoragePath", by decide +kernel⟩⟩
set_option maxRecDepth 100000 in
theorem fwX5_179 : FW RX5 179 5 9 := ⟨by decide, by decide, Or.inl (gG_of (by decide +kernel) rfl)⟩
set_option maxRecDepth 100000 in
theorem mlX5_182 : Cond.methodLink RX5 182 yX2_begin ∈ gG := gG_of (by decide +kernel) rfl
set_option maxRecDepth 100000 in
theorem mlX5_185 : Cond.methodLink RX5 185 yX5_goesAhead ∈ gG := gG_of (by decide +kernel) rfl
set_option maxRecDepth 100000 in
theorem mlX5_189 : Cond.methodLink RX5 189 yX5_distance ∈ gG := gG_of (by decide +kernel) rfl
set_option maxRecDepth 100000 in
theorem fwX5_192 : FW RX5 192 2 6 := ⟨by decide, by decide, Or.inr ⟨"StoragePath", by decide +kernel⟩⟩
set_option maxRecDepth 100000 in
theorem fwX5_195 : FW RX5 195 2 4 := ⟨by decide, by decide, Or.inr ⟨"StoragePath", by decide +kernel⟩⟩
set_option maxRecDepth 100000 in
theorem mlX5_198 : Cond.methodLink RX5 198 yX0_setOrder ∈ gG := gG_of (by decide +kernel) rfl
set_option maxRecDepth 100000 in
theorem mlX5_202 : Cond.methodLink RX5 202 yX4_deliver ∈ gG := gG_of (by decide +kernel) rfl
set_option maxRecDepth 100000 in
theorem fwX5_206 : FW RX5 206 2 5 := ⟨by decide, by decide, Or.inr ⟨"StoragePath", by decide +kernel⟩⟩
set_option maxRecDepth 100000 in
theorem mlX5_209 : Cond.methodLink RX5 209 yX2_numberAt ∈ gG := gG_of (by decide +kernel) rfl
set_option maxRecDepth 100000 in
theorem mlX5_212 : Cond.methodLink RX5 212 yX0_setNumber ∈ gG := gG_of (by decide +kernel) rfl
set_option maxRecDepth 100000 in
theorem mlX5_216 : Cond.methodLink RX5 216 yX5_keepNumber ∈ gG := gG_of (by decide +kernel) rfl
set_option maxRecDepth 100000 in
theorem mlX5_220 : Cond.methodLink RX5 220 yX3_layAll ∈ gG := gG_of (by decide +kernel) rfl
set_option maxRecDepth 100000 in
theorem mlX5_223 : Cond.methodLink RX5 223 yX0_setAnswer ∈ gG := gG_of (by decide +kernel) rfl
set_option maxRecDepth 100000 in
theorem mlX5_226 : Cond.methodLink RX5 226 yX2_setNumber ∈ gG := gG_of (by decide +kernel) rfl
set_option maxRecDepth 100000 in
theorem mlX5_227 : Cond.methodLink RX5 227 yX3_putInCache ∈ gG := gG_of (by decide +kernel) rfl
set_option maxRecDepth 100000 in
theorem mlX5_230 : Cond.methodLink RX5 230 yX3_putThrough ∈ gG := gG_of (by decide +kernel) rfl
set_option maxRecDepth 100000 in
theorem mlX6_1 : Cond.methodLink RX6 1 objectInit ∈ gG := gG_of (by decide +kernel) rfl
set_option maxRecDepth 100000 in
theorem fwX6_7 : FW RX6 7 6 0 := ⟨by decide, by decide, Or.inl (gG_of (by decide +kernel) rfl)⟩
set_option maxRecDepth 100000 in
theorem fwX6_13 : FW RX6 13 6 1 := ⟨by decide, by decide, Or.inl (gG_of (by decide +kernel) rfl)⟩
set_option maxRecDepth 100000 in
theorem fwX6_16 : FW RX6 16 6 2 := ⟨by decide, by decide, Or.inl (gG_of (by decide +kernel) rfl)⟩
set_option maxRecDepth 100000 in
theorem fwX6_19 : FW RX6 19 6 4 := ⟨by decide, by decide, Or.inl (gG_of (by decide +kernel) rfl)⟩
set_option maxRecDepth 100000 in
theorem fwX6_22 : FW RX6 22 6 6 := ⟨by decide, by decide, Or.inl (gG_of (by decide +kernel) rfl)⟩
set_option maxRecDepth 100000 in
theorem fwX6_25 : FW RX6 25 6 7 := ⟨by decide, by decide, Or.inl (gG_of (by decide +kernel) rfl)⟩
set_option maxRecDepth 100000 in
theorem fwX6_28 : FW RX6 28 6 11 := ⟨by decide, by decide, Or.inl (gG_of (by decide +kernel) rfl)⟩
set_option maxRecDepth 100000 in
theorem fwX6_31 : FW RX6 31 6 13 := ⟨by decide, by decide, Or.inl (gG_of (by decide +kernel) rfl)⟩
set_option maxRecDepth 100000 in
theorem fwX6_34 : FW RX6 34 6 15 := ⟨by decide, by decide, Or.inl (gG_of (by decide +kernel) rfl)⟩
set_option maxRecDepth 100000 in
theorem fwX6_37 : FW RX6 37 6 16 := ⟨by decide, by decide, Or.inl (gG_of (by decide +kernel) rfl)⟩
set_option maxRecDepth 100000 in
theorem fwX6_40 : FW RX6 40 6 17 := ⟨by decide, by decide, Or.inl (gG_of (by decide +kernel) rfl)⟩
set_option maxRecDepth 100000 in
theorem fwX6_43 : FW RX6 43 6 19 := ⟨by decide, by decide, Or.inl (gG_of (by decide +kernel) rfl)⟩
set_option maxRecDepth 100000 in
theorem fwX6_46 : FW RX6 46 6 20 := ⟨by decide, by decide, Or.inl (gG_of (by decide +kernel) rfl)⟩
set_option maxRecDepth 100000 in
theorem fwX6_49 : FW RX6 49 6 21 := ⟨by decide, by decide, Or.inl (gG_of (by decide +kernel) rfl)⟩
set_option maxRecDepth 100000 in
theorem fwX6_52 : FW RX6 52 6 22 := ⟨by decide, by decide, Or.inl (gG_of (by decide +kernel) rfl)⟩
set_option maxRecDepth 100000 in
theorem fwX6_55 : FW RX6 55 6 23 := ⟨by decide, by decide, Or.inl (gG_of (by decide +kernel) rfl)⟩
set_option maxRecDepth 100000 in
theorem fwX6_58 : FW RX6 58 6 24 := ⟨by decide, by decide, Or.inl (gG_of (by decide +kernel) rfl)⟩
set_option maxRecDepth 100000 in
theorem fwX6_61 : FW RX6 61 6 25 := ⟨by decide, by decide, Or.inl (gG_of (by decide +kernel) rfl)⟩
set_option maxRecDepth 100000 in
theorem fwX6_64 : FW RX6 64 6 26 := ⟨by decide, by decide, Or.inl (gG_of (by decide +kernel) rfl)⟩
set_option maxRecDepth 100000 in
theorem fwX6_67 : FW RX6 67 6 27 := ⟨by decide, by decide, Or.inl (gG_of (by decide +kernel) rfl)⟩
set_option maxRecDepth 100000 in
theorem fwX6_70 : FW RX6 70 6 32 := ⟨by decide, by decide, Or.inl (gG_of (by decide +kernel) rfl)⟩
set_option maxRecDepth 100000 in
theorem mlX6_73 : Cond.methodLink RX6 73 yX6_ones ∈ gG := gG_of (by decide +kernel) rfl
set_option maxRecDepth 100000 in
theorem mlX6_77 : Cond.methodLink RX6 77 yX6_isEven ∈ gG := gG_of (by decide +kernel) rfl
set_option maxRecDepth 100000 in
theorem mlX6_81 : Cond.methodLink RX6 81 yX6_in ∈ gG := gG_of (by decide +kernel) rfl
set_option maxRecDepth 100000 in
theorem mlX6_85 : Cond.methodLink RX6 85 yX6_wordOf ∈ gG := gG_of (by decide +kernel) rfl
set_option maxRecDepth 100000 in
theorem mlX6_89 : Cond.methodLink RX6 89 yX6_unevenOf ∈ gG := gG_of (by decide +kernel) rfl
set_option maxRecDepth 100000 in
theorem mlX6_92 : Cond.methodLink RX6 92 yX6_valueOf ∈ gG := gG_of (by decide +kernel) rfl
set_option maxRecDepth 100000 in
theorem fwX6_95 : FW RX6 95 6 3 := ⟨by decide, by decide, Or.inl (gG_of (by decide +kernel) rfl)⟩
set_option maxRecDepth 100000 in
theorem cnX6_99 : Cond.constant RX6 99 (79764919) ∈ gG := gG_of (by decide +kernel) rfl
set_option maxRecDepth 100000 in
theorem cnX6_100 : Cond.constant RX6 100 (1378996274) ∈ gG := gG_of (by decide +kernel) rfl
set_option maxRecDepth 100000 in
theorem mlX6_101 : Cond.methodLink RX6 101 yX6_checkByte ∈ gG := gG_of (by decide +kernel) rfl
set_option maxRecDepth 100000 in
theorem mlX6_105 : Cond.methodLink RX6 105 yX6_checkOf ∈ gG := gG_of (by decide +kernel) rfl
set_option maxRecDepth 100000 in
theorem fwX6_109 : FW RX6 109 6 33 := ⟨by decide, by decide, Or.inl (gG_of (by decide +kernel) rfl)⟩
set_option maxRecDepth 100000 in
theorem cnX6_112 : Cond.constant RX6 112 (65535) ∈ gG := gG_of (by decide +kernel) rfl
set_option maxRecDepth 100000 in
theorem cnX6_113 : Cond.constant RX6 113 (40977) ∈ gG := gG_of (by decide +kernel) rfl
set_option maxRecDepth 100000 in
theorem fwX6_114 : FW RX6 114 6 34 := ⟨by decide, by decide, Or.inl (gG_of (by decide +kernel) rfl)⟩
set_option maxRecDepth 100000 in
theorem fwX6_118 : FW RX6 118 6 12 := ⟨by decide, by decide, Or.inl (gG_of (by decide +kernel) rfl)⟩
set_option maxRecDepth 100000 in
theorem mlX6_121 : Cond.methodLink RX6 121 yX6_wireWord ∈ gG := gG_of (by decide +kernel) rfl
set_option maxRecDepth 100000 in
theorem fwX6_125 : FW RX6 125 6 14 := ⟨by decide, by decide, Or.inl (gG_of (by decide +kernel) rfl)⟩
set_option maxRecDepth 100000 in
theorem mlX6_128 : Cond.methodLink RX6 128 yX6_nextScramble ∈ gG := gG_of (by decide +kernel) rfl
set_option maxRecDepth 100000 in
theorem fwX6_132 : FW RX6 132 6 5 := ⟨by decide, by decide, Or.inl (gG_of (by decide +kernel) rfl)⟩
set_option maxRecDepth 100000 in
theorem fwX6_135 : FW RX6 135 6 8 := ⟨by decide, by decide, Or.inl (gG_of (by decide +kernel) rfl)⟩
set_option maxRecDepth 100000 in
theorem mlX6_138 : Cond.methodLink RX6 138 yX6_findWord ∈ gG := gG_of (by decide +kernel) rfl
set_option maxRecDepth 100000 in
theorem mlX6_141 : Cond.methodLink RX6 141 yX6_layWire ∈ gG := gG_of (by decide +kernel) rfl
set_option maxRecDepth 100000 in
theorem mlX6_144 : Cond.methodLink RX6 144 yX6_receive ∈ gG := gG_of (by decide +kernel) rfl
set_option maxRecDepth 100000 in
theorem fwX6_147 : FW RX6 147 6 9 := ⟨by decide, by decide, Or.inl (gG_of (by decide +kernel) rfl)⟩
set_option maxRecDepth 100000 in
theorem mlX6_150 : Cond.methodLink RX6 150 yX6_sendOnce ∈ gG := gG_of (by decide +kernel) rfl
set_option maxRecDepth 100000 in
theorem fwX6_153 : FW RX6 153 6 10 := ⟨by decide, by decide, Or.inl (gG_of (by decide +kernel) rfl)⟩
set_option maxRecDepth 100000 in
theorem cnX6_156 : Cond.constant RX6 156 (1000000) ∈ gG := gG_of (by decide +kernel) rfl
set_option maxRecDepth 100000 in
theorem fwX6_157 : FW RX6 157 6 28 := ⟨by decide, by decide, Or.inl (gG_of (by decide +kernel) rfl)⟩
set_option maxRecDepth 100000 in
theorem mlX6_160 : Cond.methodLink RX6 160 yX6_isTag ∈ gG := gG_of (by decide +kernel) rfl
set_option maxRecDepth 100000 in
theorem mlX6_163 : Cond.methodLink RX6 163 yX6_against ∈ gG := gG_of (by decide +kernel) rfl
set_option maxRecDepth 100000 in
theorem mlX6_167 : Cond.methodLink RX6 167 yX6_issue ∈ gG := gG_of (by decide +kernel) rfl
set_option maxRecDepth 100000 in
theorem fwX6_171 : FW RX6 171 6 18 := ⟨by decide, by decide, Or.inl (gG_of (by decide +kernel) rfl)⟩
set_option maxRecDepth 100000 in
theorem mlX6_174 : Cond.methodLink RX6 174 yX6_leave ∈ gG := gG_of (by decide +kernel) rfl
set_option maxRecDepth 100000 in
theorem mlX6_177 : Cond.methodLink RX6 177 yX6_placeOf ∈ gG := gG_of (by decide +kernel) rfl
set_option maxRecDepth 100000 in
theorem mlX6_180 : Cond.methodLink RX6 180 yX6_lay ∈ gG := gG_of (by decide +kernel) rfl
set_option maxRecDepth 100000 in
theorem mlX6_183 : Cond.methodLink RX6 183 yX6_send ∈ gG := gG_of (by decide +kernel) rfl
set_option maxRecDepth 100000 in
theorem mlX6_187 : Cond.methodLink RX6 187 yX6_lastOf ∈ gG := gG_of (by decide +kernel) rfl
set_option maxRecDepth 100000 in
theorem mlX6_190 : Cond.methodLink RX6 190 yX6_three ∈ gG := gG_of (by decide +kernel) rfl
set_option maxRecDepth 100000 in
theorem mlX6_194 : Cond.methodLink RX6 194 yX6_reads ∈ gG := gG_of (by decide +kernel) rfl
set_option maxRecDepth 100000 in
theorem mlX6_197 : Cond.methodLink RX6 197 yX6_number ∈ gG := gG_of (by decide +kernel) rfl
set_option maxRecDepth 100000 in
theorem mlX6_201 : Cond.methodLink RX6 201 yX6_through ∈ gG := gG_of (by decide +kernel) rfl
set_option maxRecDepth 100000 in
theorem mlX6_204 : Cond.methodLink RX6 204 yX6_written ∈ gG := gG_of (by decide +kernel) rfl
set_option maxRecDepth 100000 in
theorem fwX6_207 : FW RX6 207 6 29 := ⟨by decide, by decide, Or.inl (gG_of (by decide +kernel) rfl)⟩
set_option maxRecDepth 100000 in
theorem fwX6_210 : FW RX6 210 6 30 := ⟨by decide, by decide, Or.inl (gG_of (by decide +kernel) rfl)⟩
set_option maxRecDepth 100000 in
theorem mlX6_213 : Cond.methodLink RX6 213 yX6_isAhead ∈ gG := gG_of (by decide +kernel) rfl
set_option maxRecDepth 100000 in
theorem mlX6_217 : Cond.methodLink RX6 217 yX6_next ∈ gG := gG_of (by decide +kernel) rfl
set_option maxRecDepth 100000 in
theorem mlX6_220 : Cond.methodLink RX6 220 yX6_done ∈ gG := gG_of (by decide +kernel) rfl
set_option maxRecDepth 100000 in
theorem mlX6_223 : Cond.methodLink RX6 223 yX6_step ∈ gG := gG_of (by decide +kernel) rfl
set_option maxRecDepth 100000 in
theorem fwX6_226 : FW RX6 226 6 31 := ⟨by decide, by decide, Or.inl (gG_of (by decide +kernel) rfl)⟩
set_option maxRecDepth 100000 in
theorem mlX6_229 : Cond.methodLink RX6 229 yX6_tags ∈ gG := gG_of (by decide +kernel) rfl
