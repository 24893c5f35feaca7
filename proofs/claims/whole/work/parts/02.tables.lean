/-! the program as tables: methods, links, constants (written by wip/whole/gen1.py) -/
abbrev xM : Type := Nat × MethodName × ByteArray × Nat × Option FieldType × Bool × Nat × Nat × Nat × Nat × Nat × Nat
def mO (M : xM) : Nat := M.1
def mY (M : xM) : MethodName := M.2.1
def mB (M : xM) : ByteArray := M.2.2.1
def mL (M : xM) : Nat := M.2.2.2.1
def mR (M : xM) : Option FieldType := M.2.2.2.2.1
def mG (M : xM) : Bool := M.2.2.2.2.2.1
def mK (M : xM) : Nat := M.2.2.2.2.2.2.1
def mN (M : xM) : Nat := M.2.2.2.2.2.2.2.1
def mF (M : xM) : Nat := M.2.2.2.2.2.2.2.2.1
def mW (M : xM) : Nat := M.2.2.2.2.2.2.2.2.2.1
def mC (M : xM) : Nat := M.2.2.2.2.2.2.2.2.2.2.1
def mS (M : xM) : Nat := M.2.2.2.2.2.2.2.2.2.2.2
def mX5_init : xM := (5, yX5_init, cX5_init, 2, none, false, 2, 0, 3, 61, 139, 1350)
def mX4_init : xM := (4, yX4_init, cX4_init, 1, none, false, 2, 0, 1, 20, 1, 240)
def mX2_init : xM := (2, yX2_init, cX2_init, 1, none, false, 2, 0, 1, 20, 4, 28)
def mX3_init : xM := (3, yX3_init, cX3_init, 1, none, false, 2, 0, 1, 20, 5, 40)
def mX1_init : xM := (1, yX1_init, cX1_init, 2, none, false, 2, 0, 2, 40, 97, 800)
def mX0_init : xM := (0, yX0_init, cX0_init, 1, none, false, 2, 0, 1, 20, 7, 60)
def mX5_feed : xM := (5, yX5_feed, cX5_feed, 2, some .int, false, 1, 1, 1, 22, 0, 0)
def mX5_isOutside : xM := (5, yX5_isOutside, cX5_isOutside, 3, some .boolean, false, 0, 3, 0, 0, 0, 0)
def mX4_append : xM := (4, yX4_append, cX4_append, 2, some .int, false, 1, 1, 0, 0, 0, 0)
def mX5_fair : xM := (5, yX5_fair, cX5_fair, 4, some .int, false, 1, 0, 5, 114, 0, 0)
def mX4_readInto : xM := (4, yX4_readInto, cX4_readInto, 3, some .int, false, 1, 1, 4, 92, 0, 0)
def mX2_clear : xM := (2, yX2_clear, cX2_clear, 1, none, false, 1, 0, 0, 0, 0, 0)
def mX4_skipBlanks : xM := (4, yX4_skipBlanks, cX4_skipBlanks, 1, none, false, 1, 0, 0, 0, 0, 0)
def mX4_readClause : xM := (4, yX4_readClause, cX4_readClause, 4, none, false, 1, 1, 3, 69, 0, 0)
def mX4_faultOfWord : xM := (4, yX4_faultOfWord, cX4_faultOfWord, 2, some .int, false, 0, 2, 0, 0, 0, 0)
def mX4_blame : xM := (4, yX4_blame, cX4_blame, 3, none, false, 1, 2, 0, 0, 0, 0)
def mX4_readEnd : xM := (4, yX4_readEnd, cX4_readEnd, 4, none, false, 1, 1, 2, 46, 0, 0)
def mX4_readNumber : xM := (4, yX4_readNumber, cX4_readNumber, 5, some .int, false, 1, 2, 1, 22, 0, 0)
def mX4_isFigure : xM := (4, yX4_isFigure, cX4_isFigure, 1, some .boolean, false, 0, 1, 0, 0, 0, 0)
def mX4_readClose : xM := (4, yX4_readClose, cX4_readClose, 1, none, false, 1, 0, 1, 22, 0, 0)
def mX2_setEnd : xM := (2, yX2_setEnd, cX2_setEnd, 3, none, false, 1, 2, 0, 0, 0, 0)
def mX4_readLayer : xM := (4, yX4_readLayer, cX4_readLayer, 4, none, false, 1, 1, 2, 46, 0, 0)
def mX2_isAboveLayers : xM := (2, yX2_isAboveLayers, cX2_isAboveLayers, 2, some .boolean, false, 1, 1, 0, 0, 0, 0)
def mX2_addLayer : xM := (2, yX2_addLayer, cX2_addLayer, 3, none, false, 1, 2, 0, 0, 0, 0)
def mX4_readGoer : xM := (4, yX4_readGoer, cX4_readGoer, 4, none, false, 1, 1, 2, 46, 0, 0)
def mX2_addGoer : xM := (2, yX2_addGoer, cX2_addGoer, 3, none, false, 1, 2, 0, 0, 0, 0)
def mX4_readPrice : xM := (4, yX4_readPrice, cX4_readPrice, 3, none, false, 1, 1, 2, 46, 0, 0)
def mX2_setPrice : xM := (2, yX2_setPrice, cX2_setPrice, 2, none, false, 1, 1, 0, 0, 0, 0)
def mX3_begin : xM := (3, yX3_begin, cX3_begin, 3, none, false, 1, 1, 0, 0, 0, 0)
def mX0_clear : xM := (0, yX0_clear, cX0_clear, 1, none, false, 1, 0, 0, 0, 0, 0)
def mX5_fault : xM := (5, yX5_fault, cX5_fault, 1, some .int, false, 1, 0, 0, 0, 0, 0)
def mX5_told : xM := (5, yX5_told, cX5_told, 2, some .int, false, 1, 1, 3, 67, 0, 0)
def mX3_setOf : xM := (3, yX3_setOf, cX3_setOf, 4, some .int, false, 1, 1, 0, 0, 0, 0)
def mX5_bandBehind : xM := (5, yX5_bandBehind, cX5_bandBehind, 5, some .int, false, 1, 1, 2, 43, 0, 0)
def mX3_isUp : xM := (3, yX3_isUp, cX3_isUp, 2, some .boolean, false, 1, 1, 0, 0, 0, 0)
def mX5_paceOf : xM := (5, yX5_paceOf, cX5_paceOf, 2, some .int, false, 1, 1, 1, 22, 0, 0)
def mX3_heightOf : xM := (3, yX3_heightOf, cX3_heightOf, 2, some .int, false, 1, 1, 0, 0, 0, 0)
def mX2_paceAt : xM := (2, yX2_paceAt, cX2_paceAt, 3, some .int, false, 1, 1, 0, 0, 0, 0)
def mX5_older : xM := (5, yX5_older, cX5_older, 2, some .int, false, 0, 2, 1, 21, 0, 0)
def mX5_skill : xM := (5, yX5_skill, cX5_skill, 3, some .int, false, 0, 3, 1, 21, 0, 0)
def mX5_halvedAbove : xM := (5, yX5_halvedAbove, cX5_halvedAbove, 2, some .int, false, 0, 2, 0, 0, 0, 0)
def mX5_youngest : xM := (5, yX5_youngest, cX5_youngest, 3, some .int, false, 1, 0, 0, 0, 0, 0)
def mX5_oldest : xM := (5, yX5_oldest, cX5_oldest, 3, some .int, false, 1, 0, 0, 0, 0, 0)
def mX5_speed : xM := (5, yX5_speed, cX5_speed, 2, some .int, false, 1, 1, 1, 22, 0, 0)
def mX5_goer : xM := (5, yX5_goer, cX5_goer, 3, some .int, false, 1, 2, 2, 43, 0, 0)
def mX2_hasGoer : xM := (2, yX2_hasGoer, cX2_hasGoer, 2, some .boolean, false, 1, 1, 0, 0, 0, 0)
def mX5_front : xM := (5, yX5_front, cX5_front, 2, some .int, false, 1, 1, 0, 0, 0, 0)
def mX5_join : xM := (5, yX5_join, cX5_join, 2, some .int, false, 1, 1, 2, 43, 0, 0)
def mX1_push : xM := (1, yX1_push, cX1_push, 2, none, false, 1, 1, 1, 22, 0, 0)
def mX3_copyFrom : xM := (3, yX3_copyFrom, cX3_copyFrom, 3, none, false, 1, 1, 0, 0, 0, 0)
def mX3_enqueue : xM := (3, yX3_enqueue, cX3_enqueue, 2, none, false, 1, 1, 0, 0, 0, 0)
def mX5_leave : xM := (5, yX5_leave, cX5_leave, 2, some .int, false, 1, 1, 2, 43, 0, 0)
def mX3_turnOf : xM := (3, yX3_turnOf, cX3_turnOf, 3, some .int, false, 1, 1, 0, 0, 0, 0)
def mX3_dequeue : xM := (3, yX3_dequeue, cX3_dequeue, 4, none, false, 1, 2, 0, 0, 0, 0)
def mX5_board : xM := (5, yX5_board, cX5_board, 1, some .int, false, 1, 0, 3, 66, 0, 0)
def mX3_fillCar : xM := (3, yX3_fillCar, cX3_fillCar, 4, some .int, false, 1, 1, 2, 43, 0, 0)
def mX3_inCar : xM := (3, yX3_inCar, cX3_inCar, 1, some .int, false, 1, 0, 1, 23, 0, 0)
def mJ6_bitCount_0f7a4 : xM := (8, yJ6_bitCount_0f7a4, cJ6_bitCount_0f7a4, 1, some .int, false, 0, 1, 0, 0, 0, 0)
def mX5_car : xM := (5, yX5_car, cX5_car, 3, some .int, false, 1, 1, 2, 43, 0, 0)
def mX5_alight : xM := (5, yX5_alight, cX5_alight, 1, some .int, false, 1, 0, 2, 43, 0, 0)
def mX3_emptyCar : xM := (3, yX3_emptyCar, cX3_emptyCar, 3, some .int, false, 1, 0, 0, 0, 0, 0)
def mX5_off : xM := (5, yX5_off, cX5_off, 2, some .int, false, 1, 1, 2, 43, 0, 0)
def mX5_fetch : xM := (5, yX5_fetch, cX5_fetch, 2, some .int, false, 1, 1, 2, 43, 0, 0)
def mX5_hour : xM := (5, yX5_hour, cX5_hour, 3, some .int, false, 1, 1, 3, 66, 0, 0)
def mX5_refusalOfHours : xM := (5, yX5_refusalOfHours, cX5_refusalOfHours, 3, some .int, false, 1, 2, 1, 22, 0, 0)
def mX3_pass : xM := (3, yX3_pass, cX3_pass, 5, none, false, 1, 2, 2, 42, 0, 0)
def mX5_drift : xM := (5, yX5_drift, cX5_drift, 4, some .int, false, 1, 1, 4, 86, 0, 0)
def mX5_doByDraw : xM := (5, yX5_doByDraw, cX5_doByDraw, 1, none, false, 1, 0, 3, 66, 0, 0)
def mX5_draw : xM := (5, yX5_draw, cX5_draw, 2, some .int, false, 1, 1, 0, 0, 0, 0)
def mX5_joinByDraw : xM := (5, yX5_joinByDraw, cX5_joinByDraw, 2, none, false, 1, 0, 1, 21, 0, 0)
def mX5_undo : xM := (5, yX5_undo, cX5_undo, 1, some .int, false, 1, 0, 2, 43, 0, 0)
def mX1_pop : xM := (1, yX1_pop, cX1_pop, 2, none, false, 1, 1, 1, 22, 0, 0)
def mX5_age : xM := (5, yX5_age, cX5_age, 3, some .int, false, 1, 2, 2, 43, 0, 0)
def mX5_let : xM := (5, yX5_let, cX5_let, 7, some .int, false, 1, 4, 2, 42, 0, 0)
def mX5_same : xM := (5, yX5_same, cX5_same, 8, some .int, false, 1, 3, 2, 43, 0, 0)
def mX5_waits : xM := (5, yX5_waits, cX5_waits, 3, some .int, false, 1, 1, 1, 22, 0, 0)
def mX5_best : xM := (5, yX5_best, cX5_best, 6, some .int, false, 1, 1, 3, 67, 0, 0)
def mX5_was : xM := (5, yX5_was, cX5_was, 9, some .int, false, 1, 4, 1, 22, 0, 0)
def mX5_meet : xM := (5, yX5_meet, cX5_meet, 7, some .int, false, 1, 4, 1, 22, 0, 0)
def mX5_bestPrice : xM := (5, yX5_bestPrice, cX5_bestPrice, 8, some .int, false, 1, 2, 1, 22, 0, 0)
def mX5_wind : xM := (5, yX5_wind, cX5_wind, 6, some .int, true, 1, 2, 1, 22, 0, 0)
def mX5_see : xM := (5, yX5_see, cX5_see, 4, some .int, false, 1, 3, 1, 23, 0, 0)
def mX0_addSeen : xM := (0, yX0_addSeen, cX0_addSeen, 4, some .int, false, 1, 3, 0, 0, 0, 0)
def mX5_laws : xM := (5, yX5_laws, cX5_laws, 3, some .int, false, 1, 1, 4, 87, 0, 0)
def mX0_countLaws : xM := (0, yX0_countLaws, cX0_countLaws, 3, some .int, false, 1, 0, 3, 65, 0, 0)
def mX0_lawsFrom : xM := (0, yX0_lawsFrom, cX0_lawsFrom, 2, some .int, false, 1, 1, 2, 44, 0, 0)
def mX0_fitsBelow : xM := (0, yX0_fitsBelow, cX0_fitsBelow, 3, some .boolean, false, 1, 1, 0, 0, 0, 0)
def mX0_greatestPace : xM := (0, yX0_greatestPace, cX0_greatestPace, 4, some .int, false, 1, 1, 1, 21, 0, 0)
def mX0_leastPace : xM := (0, yX0_leastPace, cX0_leastPace, 4, some .int, false, 1, 1, 1, 21, 0, 0)
def mX0_leastLayer : xM := (0, yX0_leastLayer, cX0_leastLayer, 2, some .int, false, 1, 0, 3, 65, 0, 0)
def mX5_yard : xM := (5, yX5_yard, cX5_yard, 1, some .int, false, 1, 0, 5, 113, 0, 0)
def mX0_bestYard : xM := (0, yX0_bestYard, cX0_bestYard, 7, some .int, false, 1, 0, 4, 87, 0, 0)
def mX5_feel : xM := (5, yX5_feel, cX5_feel, 3, some .int, false, 1, 2, 1, 22, 0, 0)
def mX0_addFelt : xM := (0, yX0_addFelt, cX0_addFelt, 3, some .int, false, 1, 2, 0, 0, 0, 0)
def mX5_ends : xM := (5, yX5_ends, cX5_ends, 5, some .int, false, 1, 1, 2, 43, 0, 0)
def mX0_leastEnd : xM := (0, yX0_leastEnd, cX0_leastEnd, 3, some .int, false, 1, 0, 1, 21, 0, 0)
def mX0_greatestEnd : xM := (0, yX0_greatestEnd, cX0_greatestEnd, 3, some .int, false, 1, 0, 1, 21, 0, 0)
def mX5_write : xM := (5, yX5_write, cX5_write, 3, some .int, false, 1, 2, 1, 22, 0, 0)
def mX0_addEntry : xM := (0, yX0_addEntry, cX0_addEntry, 3, some .int, false, 1, 2, 0, 0, 0, 0)
def mX5_tear : xM := (5, yX5_tear, cX5_tear, 2, some .int, false, 1, 0, 1, 20, 0, 0)
def mX5_judge : xM := (5, yX5_judge, cX5_judge, 1, some .int, false, 1, 0, 1, 22, 0, 0)
def mX0_firstWrong : xM := (0, yX0_firstWrong, cX0_firstWrong, 3, some .int, false, 1, 1, 0, 0, 0, 0)
def mX5_seed : xM := (5, yX5_seed, cX5_seed, 3, some .int, false, 1, 1, 0, 0, 0, 0)
def mX5_keep : xM := (5, yX5_keep, cX5_keep, 2, some .int, false, 1, 1, 1, 22, 0, 0)
def mX5_goBack : xM := (5, yX5_goBack, cX5_goBack, 2, some .int, false, 1, 1, 1, 22, 0, 0)
def mX6_init : xM := (6, yX6_init, cX6_init, 1, none, false, 2, 0, 1, 20, 21, 2097)
def mX6_feed : xM := (6, yX6_feed, cX6_feed, 2, some .int, false, 1, 1, 1, 25, 0, 0)
def mX6_in : xM := (6, yX6_in, cX6_in, 6, some .boolean, true, 0, 3, 0, 0, 0, 0)
def mX6_fair : xM := (6, yX6_fair, cX6_fair, 2, some .int, false, 1, 0, 5, 118, 0, 0)
def mX6_here : xM := (6, yX6_here, cX6_here, 1, some .int, false, 1, 0, 0, 0, 0, 0)
def mX6_takeClause : xM := (6, yX6_takeClause, cX6_takeClause, 4, some .int, false, 1, 0, 4, 95, 0, 0)
def mX6_fails : xM := (6, yX6_fails, cX6_fails, 3, some .int, false, 1, 2, 0, 0, 0, 0)
def mX6_isFull : xM := (6, yX6_isFull, cX6_isFull, 2, some .boolean, false, 1, 1, 0, 0, 0, 0)
def mX6_takeFair : xM := (6, yX6_takeFair, cX6_takeFair, 2, some .int, false, 1, 0, 2, 48, 0, 0)
def mX6_takeNumber : xM := (6, yX6_takeNumber, cX6_takeNumber, 4, some .int, false, 1, 2, 1, 25, 0, 0)
def mX6_takeLayer : xM := (6, yX6_takeLayer, cX6_takeLayer, 3, some .int, false, 1, 0, 3, 73, 0, 0)
def mX6_into : xM := (6, yX6_into, cX6_into, 6, some .int, false, 1, 4, 2, 48, 0, 0)
def mX6_takeGoer : xM := (6, yX6_takeGoer, cX6_takeGoer, 3, some .int, false, 1, 0, 3, 73, 0, 0)
def mX6_takePrice : xM := (6, yX6_takePrice, cX6_takePrice, 2, some .int, false, 1, 0, 2, 48, 0, 0)
def mX6_takeRead : xM := (6, yX6_takeRead, cX6_takeRead, 2, none, false, 1, 0, 1, 23, 0, 0)
def mX6_copyRow : xM := (6, yX6_copyRow, cX6_copyRow, 4, none, false, 0, 3, 0, 0, 0, 0)
def mX6_fault : xM := (6, yX6_fault, cX6_fault, 1, some .int, false, 1, 0, 0, 0, 0, 0)
def mX6_told : xM := (6, yX6_told, cX6_told, 2, some .int, false, 1, 1, 4, 91, 0, 0)
def mX6_allAt : xM := (6, yX6_allAt, cX6_allAt, 4, some .int, false, 1, 1, 0, 0, 0, 0)
def mX6_bandBehind : xM := (6, yX6_bandBehind, cX6_bandBehind, 4, some .int, false, 1, 1, 3, 68, 0, 0)
def mX6_isUp : xM := (6, yX6_isUp, cX6_isUp, 2, some .boolean, false, 1, 1, 0, 0, 0, 0)
def mX6_paceOf : xM := (6, yX6_paceOf, cX6_paceOf, 2, some .int, false, 1, 1, 1, 23, 0, 0)
def mX6_heightOf : xM := (6, yX6_heightOf, cX6_heightOf, 3, some .int, false, 1, 1, 0, 0, 0, 0)
def mX6_speedAt : xM := (6, yX6_speedAt, cX6_speedAt, 4, some .int, false, 1, 1, 0, 0, 0, 0)
def mX6_olderBy : xM := (6, yX6_olderBy, cX6_olderBy, 5, some .int, true, 1, 2, 2, 44, 0, 0)
def mX6_skillBy : xM := (6, yX6_skillBy, cX6_skillBy, 5, some .int, false, 1, 3, 0, 0, 0, 0)
def mX6_byAge : xM := (6, yX6_byAge, cX6_byAge, 5, some .int, false, 1, 1, 0, 0, 0, 0)
def mX6_speed : xM := (6, yX6_speed, cX6_speed, 2, some .int, false, 1, 1, 1, 25, 0, 0)
def mX6_goer : xM := (6, yX6_goer, cX6_goer, 3, some .int, false, 1, 2, 2, 46, 0, 0)
def mX6_isGoer : xM := (6, yX6_isGoer, cX6_isGoer, 2, some .boolean, false, 1, 1, 1, 25, 0, 0)
def mX6_skillOf : xM := (6, yX6_skillOf, cX6_skillOf, 2, some .int, false, 1, 1, 1, 24, 0, 0)
def mX6_front : xM := (6, yX6_front, cX6_front, 2, some .int, false, 1, 1, 1, 25, 0, 0)
def mX6_join : xM := (6, yX6_join, cX6_join, 2, some .int, false, 1, 1, 2, 46, 0, 0)
def mX6_remember : xM := (6, yX6_remember, cX6_remember, 2, none, false, 1, 0, 0, 0, 0, 0)
def mX6_joinNow : xM := (6, yX6_joinNow, cX6_joinNow, 2, none, false, 1, 1, 0, 0, 0, 0)
def mX6_leave : xM := (6, yX6_leave, cX6_leave, 2, some .int, false, 1, 1, 2, 46, 0, 0)
def mX6_placeOf : xM := (6, yX6_placeOf, cX6_placeOf, 3, some .int, false, 1, 1, 0, 0, 0, 0)
def mX6_takeFromLine : xM := (6, yX6_takeFromLine, cX6_takeFromLine, 3, none, false, 1, 1, 0, 0, 0, 0)
def mX6_board : xM := (6, yX6_board, cX6_board, 1, some .int, false, 1, 0, 2, 44, 0, 0)
def mX6_boardNow : xM := (6, yX6_boardNow, cX6_boardNow, 2, some .int, false, 1, 0, 1, 23, 0, 0)
def mX6_manyAt : xM := (6, yX6_manyAt, cX6_manyAt, 4, some .int, false, 1, 1, 0, 0, 0, 0)
def mX6_car : xM := (6, yX6_car, cX6_car, 3, some .int, false, 1, 1, 1, 25, 0, 0)
def mX6_alight : xM := (6, yX6_alight, cX6_alight, 1, some .int, false, 1, 0, 1, 22, 0, 0)
def mX6_alightNow : xM := (6, yX6_alightNow, cX6_alightNow, 3, some .int, false, 1, 0, 0, 0, 0, 0)
def mX6_off : xM := (6, yX6_off, cX6_off, 2, some .int, false, 1, 1, 2, 46, 0, 0)
def mX6_fetch : xM := (6, yX6_fetch, cX6_fetch, 2, some .int, false, 1, 1, 2, 46, 0, 0)
def mX6_hour : xM := (6, yX6_hour, cX6_hour, 2, some .int, false, 1, 1, 4, 90, 0, 0)
def mX6_pass : xM := (6, yX6_pass, cX6_pass, 3, none, false, 1, 1, 3, 68, 0, 0)
def mX6_drift : xM := (6, yX6_drift, cX6_drift, 3, some .int, false, 1, 1, 4, 90, 0, 0)
def mX6_chance : xM := (6, yX6_chance, cX6_chance, 3, none, false, 1, 0, 2, 44, 0, 0)
def mX6_draw : xM := (6, yX6_draw, cX6_draw, 2, some .int, false, 1, 1, 0, 0, 0, 0)
def mX6_undo : xM := (6, yX6_undo, cX6_undo, 2, some .int, false, 1, 0, 0, 0, 0, 0)
def mX6_age : xM := (6, yX6_age, cX6_age, 3, some .int, false, 1, 2, 3, 68, 0, 0)
def mX6_let : xM := (6, yX6_let, cX6_let, 9, some .int, false, 1, 4, 2, 46, 0, 0)
def mX6_same : xM := (6, yX6_same, cX6_same, 7, some .int, false, 1, 3, 3, 68, 0, 0)
def mX6_waits : xM := (6, yX6_waits, cX6_waits, 3, some .int, false, 1, 1, 2, 46, 0, 0)
def mX6_best : xM := (6, yX6_best, cX6_best, 6, some .int, false, 1, 1, 4, 91, 0, 0)
def mX6_was : xM := (6, yX6_was, cX6_was, 10, some .int, false, 1, 4, 1, 25, 0, 0)
def mX6_meet : xM := (6, yX6_meet, cX6_meet, 7, some .int, false, 1, 4, 1, 25, 0, 0)
def mX6_bestPrice : xM := (6, yX6_bestPrice, cX6_bestPrice, 8, some .int, false, 1, 2, 1, 25, 0, 0)
def mX6_wind : xM := (6, yX6_wind, cX6_wind, 6, some .int, true, 1, 2, 1, 25, 0, 0)
def mX6_see : xM := (6, yX6_see, cX6_see, 4, some .int, false, 1, 3, 1, 25, 0, 0)
def mX6_laws : xM := (6, yX6_laws, cX6_laws, 4, some .int, false, 1, 1, 2, 47, 0, 0)
def mX6_findLaws : xM := (6, yX6_findLaws, cX6_findLaws, 4, none, false, 1, 0, 1, 24, 0, 0)
def mX6_couldBe : xM := (6, yX6_couldBe, cX6_couldBe, 5, some .boolean, false, 1, 2, 0, 0, 0, 0)
def mX6_firstLaw : xM := (6, yX6_firstLaw, cX6_firstLaw, 2, some .int, false, 1, 0, 0, 0, 0, 0)
def mX6_allLaws : xM := (6, yX6_allLaws, cX6_allLaws, 3, some .int, false, 1, 0, 0, 0, 0, 0)
def mX6_yard : xM := (6, yX6_yard, cX6_yard, 7, some .int, false, 1, 0, 2, 47, 0, 0)
def mX6_feel : xM := (6, yX6_feel, cX6_feel, 3, some .int, false, 1, 2, 1, 25, 0, 0)
def mX6_ends : xM := (6, yX6_ends, cX6_ends, 4, some .int, false, 1, 1, 2, 47, 0, 0)
def mX6_couldEnd : xM := (6, yX6_couldEnd, cX6_couldEnd, 5, some .boolean, false, 1, 1, 0, 0, 0, 0)
def mX6_endBehind : xM := (6, yX6_endBehind, cX6_endBehind, 4, some .int, false, 1, 1, 1, 24, 0, 0)
def mX6_write : xM := (6, yX6_write, cX6_write, 3, some .int, false, 1, 2, 2, 46, 0, 0)
def mX6_tear : xM := (6, yX6_tear, cX6_tear, 2, some .int, false, 1, 0, 0, 0, 0, 0)
def mX6_judge : xM := (6, yX6_judge, cX6_judge, 2, some .int, false, 1, 0, 0, 0, 0, 0)
def mX6_seed : xM := (6, yX6_seed, cX6_seed, 3, some .int, false, 1, 1, 0, 0, 0, 0)
def mX6_keep : xM := (6, yX6_keep, cX6_keep, 3, some .int, false, 1, 1, 1, 25, 0, 0)
def mX6_goBack : xM := (6, yX6_goBack, cX6_goBack, 3, some .int, false, 1, 1, 1, 25, 0, 0)
def mL_law : xM := (7, yL_law, cL_law, 4, some .boolean, false, 0, 1, 8, 278, 600000, 7302250)
def xMT : List xM := [mX5_init, mX4_init, mX2_init, mX3_init, mX1_init, mX0_init, mX5_feed, mX5_isOutside, mX4_append, mX5_fair, mX4_readInto, mX2_clear, mX4_skipBlanks, mX4_readClause, mX4_faultOfWord, mX4_blame, mX4_readEnd, mX4_readNumber, mX4_isFigure, mX4_readClose, mX2_setEnd, mX4_readLayer, mX2_isAboveLayers, mX2_addLayer, mX4_readGoer, mX2_addGoer, mX4_readPrice, mX2_setPrice, mX3_begin, mX0_clear, mX5_fault, mX5_told, mX3_setOf, mX5_bandBehind, mX3_isUp, mX5_paceOf, mX3_heightOf, mX2_paceAt, mX5_older, mX5_skill, mX5_halvedAbove, mX5_youngest, mX5_oldest, mX5_speed, mX5_goer, mX2_hasGoer, mX5_front, mX5_join, mX1_push, mX3_copyFrom, mX3_enqueue, mX5_leave, mX3_turnOf, mX3_dequeue, mX5_board, mX3_fillCar, mX3_inCar, mJ6_bitCount_0f7a4, mX5_car, mX5_alight, mX3_emptyCar, mX5_off, mX5_fetch, mX5_hour, mX5_refusalOfHours, mX3_pass, mX5_drift, mX5_doByDraw, mX5_draw, mX5_joinByDraw, mX5_undo, mX1_pop, mX5_age, mX5_let, mX5_same, mX5_waits, mX5_best, mX5_was, mX5_meet, mX5_bestPrice, mX5_wind, mX5_see, mX0_addSeen, mX5_laws, mX0_countLaws, mX0_lawsFrom, mX0_fitsBelow, mX0_greatestPace, mX0_leastPace, mX0_leastLayer, mX5_yard, mX0_bestYard, mX5_feel, mX0_addFelt, mX5_ends, mX0_leastEnd, mX0_greatestEnd, mX5_write, mX0_addEntry, mX5_tear, mX5_judge, mX0_firstWrong, mX5_seed, mX5_keep, mX5_goBack, mX6_init, mX6_feed, mX6_in, mX6_fair, mX6_here, mX6_takeClause, mX6_fails, mX6_isFull, mX6_takeFair, mX6_takeNumber, mX6_takeLayer, mX6_into, mX6_takeGoer, mX6_takePrice, mX6_takeRead, mX6_copyRow, mX6_fault, mX6_told, mX6_allAt, mX6_bandBehind, mX6_isUp, mX6_paceOf, mX6_heightOf, mX6_speedAt, mX6_olderBy, mX6_skillBy, mX6_byAge, mX6_speed, mX6_goer, mX6_isGoer, mX6_skillOf, mX6_front, mX6_join, mX6_remember, mX6_joinNow, mX6_leave, mX6_placeOf, mX6_takeFromLine, mX6_board, mX6_boardNow, mX6_manyAt, mX6_car, mX6_alight, mX6_alightNow, mX6_off, mX6_fetch, mX6_hour, mX6_pass, mX6_drift, mX6_chance, mX6_draw, mX6_undo, mX6_age, mX6_let, mX6_same, mX6_waits, mX6_best, mX6_was, mX6_meet, mX6_bestPrice, mX6_wind, mX6_see, mX6_laws, mX6_findLaws, mX6_couldBe, mX6_firstLaw, mX6_allLaws, mX6_yard, mX6_feel, mX6_ends, mX6_couldEnd, mX6_endBehind, mX6_write, mX6_tear, mX6_judge, mX6_seed, mX6_keep, mX6_goBack]
def xOwn : List String := [RX0, RX1, RX2, RX3, RX4, RX5, RX6, RL, RJ6, RJ9]
def xO (i : Nat) : String := xOwn.getD i ""
def xCl (ci : Nat) : vw_C := (vwCl[ci]?).getD ("", fun _ => ("", "", "", false), 0)
def xT (ci k : Nat) : String × String × String × Bool := (xCl ci).2.1 k
def xFT : List (Nat × Nat × Nat × Nat) := [(4, 9, 4, 0), (4, 19, 4, 1), (5, 68, 4, 1), (4, 27, 4, 2), (4, 87, 4, 3), (4, 30, 4, 4), (4, 15, 4, 5), (5, 93, 4, 5), (2, 28, 2, 0), (4, 60, 2, 0), (5, 111, 2, 0), (2, 32, 2, 1), (4, 70, 2, 1), (2, 35, 2, 2), (5, 96, 2, 2), (2, 38, 2, 3), (5, 99, 2, 3), (3, 54, 2, 3), (2, 9, 2, 4), (5, 131, 2, 4), (3, 75, 2, 4), (2, 41, 2, 5), (4, 64, 2, 5), (5, 102, 2, 5), (2, 44, 2, 6), (5, 90, 2, 6), (4, 67, 2, 6), (3, 78, 2, 6), (2, 15, 2, 7), (2, 19, 2, 8), (2, 22, 2, 9), (3, 40, 2, 9), (2, 25, 2, 10), (5, 158, 2, 10), (3, 27, 3, 0), (5, 108, 3, 0), (3, 31, 3, 1), (5, 105, 3, 1), (3, 34, 3, 2), (5, 118, 3, 2), (3, 37, 3, 3), (5, 134, 3, 3), (3, 9, 3, 4), (5, 174, 3, 4), (3, 15, 3, 5), (0, 44, 3, 5), (5, 155, 3, 5), (3, 18, 3, 6), (5, 161, 3, 6), (3, 21, 3, 7), (5, 168, 3, 7), (3, 24, 3, 8), (5, 198, 3, 8), (1, 11, 1, 0), (1, 26, 1, 1), (5, 87, 1, 1), (1, 18, 1, 2), (0, 34, 0, 0), (5, 137, 0, 0), (0, 38, 0, 1), (5, 140, 0, 1), (0, 41, 0, 2), (5, 143, 0, 2), (0, 9, 0, 3), (0, 15, 0, 4), (0, 18, 0, 5), (0, 22, 0, 6), (0, 25, 0, 7), (0, 28, 0, 8), (0, 31, 0, 9), (5, 10, 5, 0), (5, 19, 5, 1), (5, 23, 5, 2), (5, 29, 5, 3), (5, 36, 5, 4), (5, 40, 5, 5), (5, 44, 5, 6), (5, 48, 5, 7), (5, 55, 5, 8), (5, 59, 5, 9), (6, 78, 6, 0), (6, 158, 6, 1), (6, 161, 6, 2), (6, 7, 6, 3), (6, 13, 6, 4), (6, 81, 6, 5), (6, 16, 6, 6), (6, 19, 6, 7), (6, 164, 6, 8), (6, 22, 6, 9), (6, 260, 6, 10), (6, 25, 6, 11), (6, 91, 6, 12), (6, 28, 6, 13), (6, 95, 6, 14), (6, 113, 6, 15), (6, 110, 6, 16), (6, 119, 6, 17), (6, 122, 6, 18), (6, 125, 6, 19), (6, 32, 6, 20), (6, 35, 6, 21), (6, 132, 6, 22), (6, 38, 6, 23), (6, 41, 6, 24), (6, 139, 6, 25), (6, 135, 6, 26), (6, 186, 6, 27), (6, 44, 6, 28), (6, 177, 6, 29), (6, 47, 6, 30), (6, 50, 6, 31), (6, 53, 6, 32), (6, 57, 6, 33), (6, 180, 6, 34), (6, 60, 6, 35), (6, 63, 6, 36), (6, 183, 6, 37), (6, 66, 6, 38), (6, 69, 6, 39), (6, 72, 6, 40), (6, 75, 6, 41)]
def xFl (oi idx : Nat) : Option (Nat × Nat) := (xFT.find? (fun e => e.1 == oi && e.2.1 == idx)).map (fun e => e.2.2)
def xFc (e : Nat × Nat × Nat × Nat) : Cond := .fieldLink (xO e.1) e.2.1 (xT e.2.2.1 e.2.2.2).1 (xT e.2.2.1 e.2.2.2).2.1 (xT e.2.2.1 e.2.2.2).2.2.1
def xwt : List Cond := lw_tbl.filter goodWord
theorem xwt_of {w : Cond} (h : w ∈ lw_tbl) (hg : goodWord w = true) : w ∈ xwt := List.mem_filter.mpr ⟨h, hg⟩
theorem xmem_of {α : Type} {l : List α} {f : α → Cond} (ps : List Nat) (h : l.map f = ps.filterMap (fun i => lw_tbl[i]?)) (hg : l.all (fun e => goodWord (f e)) = true) : ∀ e ∈ l, f e ∈ xwt := by
  intro e he
  have h1 : f e ∈ l.map f := List.mem_map_of_mem he
  rw [h] at h1
  obtain ⟨i, -, hi⟩ := List.mem_filterMap.mp h1
  exact xwt_of (List.mem_of_getElem? hi) (List.all_eq_true.mp hg e he)
set_option maxRecDepth 100000 in
theorem xFT_ok : ∀ e ∈ xFT, xFc e ∈ xwt := xmem_of [70, 71, 72, 73, 74, 75, 76, 77, 98, 99, 100, 101, 102, 103, 104, 105, 106, 107, 108, 109, 110, 111, 112, 113, 114, 115, 116, 117, 118, 119, 120, 121, 122, 123, 153, 154, 155, 156, 157, 158, 159, 160, 161, 162, 163, 164, 165, 166, 167, 168, 169, 170, 171, 200, 201, 202, 203, 217, 218, 219, 220, 221, 222, 223, 224, 225, 226, 227, 228, 229, 252, 253, 254, 255, 256, 257, 258, 259, 260, 261, 716, 717, 718, 719, 720, 721, 722, 723, 724, 725, 726, 727, 728, 729, 730, 731, 732, 733, 734, 735, 736, 737, 738, 739, 740, 741, 742, 743, 744, 745, 746, 747, 748, 749, 750, 751, 752, 753, 754, 755, 756, 757] (by decide +kernel) (by decide +kernel)
theorem xFT_k : ∀ e ∈ xFT, e.2.2.1 < 7 ∧ e.2.2.2 < (xCl e.2.2.1).2.2 := by decide +kernel
def xCT : List (Nat × Nat × Int32) := [(5, 67, -1000000002), (5, 71, -1000000004), (5, 269, 99999999), (5, 149, -1000000003), (5, 154, -1000000001), (8, 265, 1431655765), (8, 266, 858993459), (8, 267, 252645135), (3, 74, 999999), (5, 276, 99999), (5, 280, 1103515245), (5, 281, 2147483647), (5, 282, 65536), (5, 258, 999999), (6, 90, -1000000002), (6, 94, -1000000004), (6, 223, -1000000003), (6, 227, -1000000001), (6, 247, 999999), (6, 256, 99999), (6, 269, 65536)]
def xCo (oi idx : Nat) : Option Int32 := (xCT.find? (fun e => e.1 == oi && e.2.1 == idx)).map (fun e => e.2.2)
theorem xCT_ok : ∀ e ∈ xCT, Cond.constant (xO e.1) e.2.1 e.2.2 ∈ xwt := xmem_of (f := fun e : Nat × Nat × Int32 => Cond.constant (xO e.1) e.2.1 e.2.2) [290, 291, 414, 436, 445, 495, 496, 497, 503, 533, 554, 555, 556, 680, 851, 852, 956, 965, 1010, 1036, 1057] (by decide +kernel) (by decide +kernel)
def xLT : List (Nat × Nat × Int64) := [(5, 229, 1000000000), (5, 231, 100), (6, 88, 255), (6, 102, 48), (6, 104, 57), (6, 202, 99999999), (6, 221, 900), (6, 254, 500), (6, 273, 60), (6, 263, 1103515245), (6, 265, 12345), (6, 267, 2147483648), (6, 278, 999), (6, 280, 100), (6, 282, 2), (6, 284, 20), (6, 286, 1000000000), (6, 304, 3), (6, 309, 999999)]
def xCoL (oi idx : Nat) : Option Int64 := (xLT.find? (fun e => e.1 == oi && e.2.1 == idx)).map (fun e => e.2.2)
theorem xLT_ok : ∀ e ∈ xLT, Cond.constantLong (xO e.1) e.2.1 e.2.2 ∈ xwt := xmem_of (f := fun e : Nat × Nat × Int64 => Cond.constantLong (xO e.1) e.2.1 e.2.2) [606, 607, 847, 881, 882, 942, 955, 1035, 1045, 1054, 1055, 1056, 1070, 1071, 1088, 1097, 1102, 1139, 1152] (by decide +kernel) (by decide +kernel)
def xNT : List (Nat × Nat × Nat) := [(7, 7, 5), (5, 7, 4), (5, 16, 2), (5, 26, 3), (5, 33, 1), (1, 9, 3), (5, 52, 0), (7, 10, 6)]
def xNl (oi idx : Nat) : Option Nat := (xNT.find? (fun e => e.1 == oi && e.2.1 == idx)).map (fun e => e.2.2)
theorem xNT_ok : ∀ e ∈ xNT, Cond.classLink (xO e.1) e.2.1 (xCl e.2.2).1 ∈ xwt := xmem_of (f := fun e : Nat × Nat × Nat => Cond.classLink (xO e.1) e.2.1 (xCl e.2.2).1) [56, 64, 92, 147, 191, 197, 211, 710] (by decide +kernel) (by decide +kernel)
theorem xNT_k : ∀ e ∈ xNT, e.2.2 < 7 := by decide +kernel
def xLk : List (Nat × Nat × Nat × Nat) := [(7, 9, 0, 0), (5, 1, 1000, 0), (5, 9, 1, 0), (4, 3, 1000, 0), (5, 18, 2, 0), (2, 3, 1000, 0), (5, 28, 3, 0), (3, 3, 1000, 0), (5, 35, 4, 0), (1, 3, 1000, 0), (1, 17, 3, 0), (5, 54, 5, 0), (0, 3, 1000, 0), (7, 13, 6, 0), (5, 63, 7, 0), (5, 72, 8, 0), (7, 18, 9, 0), (5, 76, 10, 0), (4, 22, 11, 0), (4, 33, 12, 0), (4, 36, 13, 0), (4, 40, 14, 0), (4, 44, 15, 0), (4, 48, 16, 0), (4, 73, 17, 0), (4, 100, 18, 0), (4, 103, 7, 1), (4, 77, 19, 0), (4, 80, 20, 0), (4, 51, 21, 0), (4, 83, 22, 0), (4, 90, 23, 0), (4, 54, 24, 0), (4, 93, 25, 0), (4, 57, 26, 0), (4, 96, 27, 0), (5, 80, 28, 0), (5, 84, 29, 0), (7, 23, 30, 0), (7, 27, 31, 0), (5, 115, 32, 0), (5, 121, 33, 0), (5, 277, 34, 0), (5, 218, 35, 0), (5, 171, 36, 0), (5, 146, 37, 0), (5, 221, 38, 0), (5, 270, 1002, 0), (5, 164, 39, 0), (5, 273, 40, 0), (5, 124, 41, 0), (5, 128, 42, 0), (7, 31, 43, 0), (7, 35, 44, 0), (5, 150, 45, 0), (7, 40, 46, 0), (7, 44, 47, 0), (5, 177, 48, 0), (1, 22, 49, 0), (1, 29, 1002, 0), (5, 181, 50, 0), (7, 48, 51, 0), (5, 185, 52, 0), (5, 188, 53, 0), (7, 52, 54, 0), (5, 192, 55, 0), (3, 57, 56, 0), (3, 45, 32, 0), (3, 49, 57, 0), (3, 61, 1001, 0), (3, 67, 1002, 0), (3, 70, 53, 0), (7, 56, 58, 0), (7, 60, 59, 0), (5, 195, 60, 0), (7, 64, 61, 0), (5, 201, 56, 0), (7, 68, 62, 0), (7, 72, 63, 0), (5, 204, 64, 0), (5, 208, 65, 0), (3, 81, 36, 0), (3, 84, 37, 0), (3, 87, 38, 1), (3, 90, 34, 0), (7, 76, 66, 0), (5, 212, 67, 0), (5, 283, 68, 0), (5, 286, 69, 0), (7, 80, 70, 0), (5, 215, 71, 0), (7, 84, 72, 0), (7, 88, 73, 0), (7, 93, 74, 0), (7, 98, 75, 0), (7, 102, 76, 0), (7, 106, 77, 0), (7, 110, 78, 0), (7, 114, 79, 0), (5, 224, 1001, 0), (7, 118, 80, 0), (7, 122, 81, 0), (5, 233, 82, 0), (7, 127, 83, 0), (5, 237, 84, 0), (0, 69, 85, 0), (0, 58, 86, 0), (0, 62, 87, 0), (0, 55, 1002, 0), (0, 66, 88, 0), (0, 49, 1001, 0), (5, 240, 89, 0), (5, 243, 88, 0), (7, 131, 90, 0), (5, 246, 91, 0), (0, 72, 84, 0), (7, 135, 92, 0), (5, 249, 93, 0), (7, 139, 94, 0), (5, 252, 95, 0), (5, 255, 96, 0), (7, 143, 97, 0), (5, 259, 98, 0), (7, 147, 99, 0), (7, 151, 100, 0), (5, 262, 101, 0), (7, 155, 102, 0), (7, 159, 103, 0), (5, 266, 49, 0), (7, 163, 104, 0), (7, 12, 105, 0), (6, 1, 1000, 0), (7, 17, 106, 0), (6, 84, 107, 0), (7, 22, 108, 0), (6, 98, 109, 0), (6, 171, 110, 0), (6, 106, 111, 0), (6, 142, 112, 0), (6, 146, 113, 0), (6, 116, 114, 0), (6, 149, 115, 0), (6, 128, 116, 0), (6, 152, 117, 0), (6, 155, 118, 0), (6, 174, 119, 0), (6, 167, 120, 0), (7, 26, 121, 0), (7, 30, 122, 0), (6, 211, 123, 0), (6, 214, 124, 0), (6, 189, 125, 0), (6, 199, 126, 0), (6, 192, 127, 0), (6, 196, 128, 0), (6, 208, 129, 0), (6, 204, 130, 0), (6, 217, 131, 0), (7, 34, 132, 0), (7, 39, 133, 0), (6, 224, 134, 0), (6, 228, 135, 0), (7, 43, 136, 0), (7, 47, 137, 0), (6, 231, 138, 0), (6, 234, 139, 0), (7, 51, 140, 0), (6, 238, 141, 0), (6, 241, 142, 0), (7, 55, 143, 0), (6, 248, 144, 0), (6, 244, 145, 0), (7, 59, 146, 0), (7, 63, 147, 0), (6, 251, 148, 0), (7, 67, 149, 0), (7, 71, 150, 0), (7, 75, 151, 0), (6, 257, 152, 0), (7, 79, 153, 0), (6, 275, 154, 0), (6, 270, 155, 0), (7, 83, 156, 0), (7, 87, 157, 0), (7, 92, 158, 0), (7, 97, 159, 0), (7, 101, 160, 0), (7, 105, 161, 0), (7, 109, 162, 0), (7, 113, 163, 0), (7, 117, 164, 0), (7, 121, 165, 0), (7, 126, 166, 0), (7, 130, 167, 0), (6, 292, 168, 0), (6, 288, 169, 0), (6, 295, 170, 0), (6, 298, 171, 0), (7, 134, 172, 0), (7, 138, 173, 0), (7, 142, 174, 0), (6, 301, 175, 0), (6, 306, 176, 0), (7, 146, 177, 0), (7, 150, 178, 0), (7, 154, 179, 0), (7, 158, 180, 0), (7, 162, 181, 0), (7, 166, 182, 0)]
def xMl (oi idx : Nat) : Option (Nat × Nat) := (xLk.find? (fun e => e.1 == oi && e.2.1 == idx)).map (fun e => e.2.2)
def xLc (e : Nat × Nat × Nat × Nat) : Cond := if e.2.2.1 = 1000 then .methodLink (xO e.1) e.2.1 objectInit else if e.2.2.1 = 1001 then .methodLink (xO e.1) e.2.1 Lib.Math.max.name else if e.2.2.1 = 1002 then .methodLink (xO e.1) e.2.1 Lib.Math.min.name else if e.2.2.2 = 0 then .methodLink (xO e.1) e.2.1 (mY ((xMT[e.2.2.1]?).getD mL_law)) else .methodLinkNest (xO e.1) e.2.1 (mY ((xMT[e.2.2.1]?).getD mL_law)) RX5
set_option maxRecDepth 100000 in
theorem xLk_ok0 : ∀ e ∈ xLk.filter (fun e => e.2.2.2 == 0), xLc e ∈ xwt := xmem_of [58, 61, 66, 69, 94, 97, 149, 152, 193, 196, 199, 213, 216, 283, 287, 292, 296, 300, 304, 308, 312, 316, 319, 323, 327, 331, 335, 339, 343, 347, 351, 355, 359, 363, 367, 371, 375, 379, 383, 387, 391, 395, 399, 403, 407, 411, 415, 418, 421, 424, 428, 432, 437, 441, 446, 450, 454, 458, 462, 463, 467, 471, 475, 479, 483, 487, 491, 492, 498, 501, 502, 504, 508, 512, 516, 520, 521, 525, 529, 534, 538, 539, 541, 542, 546, 550, 557, 561, 565, 569, 573, 577, 581, 585, 589, 593, 597, 601, 602, 608, 612, 616, 620, 624, 628, 632, 636, 637, 641, 642, 646, 647, 651, 655, 656, 660, 664, 668, 672, 676, 681, 685, 689, 693, 697, 701, 705, 706, 712, 715, 843, 848, 853, 857, 861, 865, 869, 873, 877, 883, 887, 891, 895, 899, 903, 906, 910, 914, 918, 922, 926, 930, 934, 938, 943, 947, 951, 957, 961, 966, 970, 974, 978, 982, 986, 990, 994, 998, 1002, 1006, 1011, 1015, 1019, 1023, 1027, 1031, 1037, 1041, 1046, 1050, 1058, 1062, 1066, 1072, 1076, 1080, 1084, 1089, 1093, 1098, 1103, 1107, 1111, 1115, 1119, 1123, 1127, 1131, 1135, 1140, 1144, 1148, 1153, 1157, 1161, 1165, 1169] (by decide +kernel) (by decide +kernel)
theorem xLk_ok (e : Nat × Nat × Nat × Nat) (h : e ∈ xLk) (h0 : e.2.2.2 = 0) : xLc e ∈ xwt := xLk_ok0 e (List.mem_filter.mpr ⟨h, by simp [h0]⟩)
def xNs : List Cond := (xLk.filter (fun e => !(e.2.2.2 == 0))).map xLc
theorem xNs_mem : ∀ w ∈ xNs, w ∈ lw_tbl := by
  intro w hw
  have h : xNs = ([334, 540] : List Nat).filterMap (fun i => lw_tbl[i]?) := by decide +kernel
  rw [h] at hw
  obtain ⟨i, -, hi⟩ := List.mem_filterMap.mp hw
  exact List.mem_of_getElem? hi
def xMc1 (M : xM) : Cond := .code (mY M) (mB M) (mL M) (mR M)
def xMc2 (M : xM) : Cond := .initialized (mY M).cls
def xMc3 (M : xM) : Cond := if mK M = 0 then .static (mY M) else .instanceMethod (mY M)
def xMc4 (M : xM) : Cond := if mK M = 1 then .selects (mY M).cls (mY M) (mY M) else .initialized (mY M).cls
theorem xt_1 {w : Cond} (h : w ∈ tables_1_1) : w ∈ lw_tbl := List.mem_append_right _ (List.mem_append_left _ h)
theorem xt_2 {w : Cond} (h : w ∈ tables_1_2) : w ∈ lw_tbl := List.mem_append_right _ (List.mem_append_right _ (List.mem_append_left _ h))
theorem xt_3 {w : Cond} (h : w ∈ tables_1_3) : w ∈ lw_tbl := List.mem_append_right _ (List.mem_append_right _ (List.mem_append_right _ (List.mem_append_left _ h)))
theorem xt_4 {w : Cond} (h : w ∈ tables_1_4) : w ∈ lw_tbl := List.mem_append_right _ (List.mem_append_right _ (List.mem_append_right _ (List.mem_append_right _ (List.mem_append_left _ h))))
theorem xt_5 {w : Cond} (h : w ∈ tables_1_5) : w ∈ lw_tbl := List.mem_append_right _ (List.mem_append_right _ (List.mem_append_right _ (List.mem_append_right _ (List.mem_append_right _ (h)))))
theorem xc_X5_init : xMc1 mX5_init ∈ xwt := xwt_of (xt_1 (List.mem_of_getElem? (i := 14) rfl)) rfl
theorem xc_X4_init : xMc1 mX4_init ∈ xwt := xwt_of (xt_1 (List.mem_of_getElem? (i := 22) rfl)) rfl
theorem xc_X2_init : xMc1 mX2_init ∈ xwt := xwt_of (xt_1 (List.mem_of_getElem? (i := 50) rfl)) rfl
theorem xc_X3_init : xMc1 mX3_init ∈ xwt := xwt_of (xt_1 (List.mem_of_getElem? (i := 105) rfl)) rfl
theorem xc_X1_init : xMc1 mX1_init ∈ xwt := xwt_of (xt_1 (List.mem_of_getElem? (i := 149) rfl)) rfl
theorem xc_X0_init : xMc1 mX0_init ∈ xwt := xwt_of (xt_1 (List.mem_of_getElem? (i := 169) rfl)) rfl
theorem xc_X5_feed : xMc1 mX5_feed ∈ xwt := xwt_of (xt_2 (List.mem_of_getElem? (i := 0) rfl)) rfl
theorem xc_X5_isOutside : xMc1 mX5_isOutside ∈ xwt := xwt_of (xt_2 (List.mem_of_getElem? (i := 3) rfl)) rfl
theorem xc_X4_append : xMc1 mX4_append ∈ xwt := xwt_of (xt_2 (List.mem_of_getElem? (i := 9) rfl)) rfl
theorem xc_X5_fair : xMc1 mX5_fair ∈ xwt := xwt_of (xt_2 (List.mem_of_getElem? (i := 13) rfl)) rfl
theorem xc_X4_readInto : xMc1 mX4_readInto ∈ xwt := xwt_of (xt_2 (List.mem_of_getElem? (i := 17) rfl)) rfl
theorem xc_X2_clear : xMc1 mX2_clear ∈ xwt := xwt_of (xt_2 (List.mem_of_getElem? (i := 21) rfl)) rfl
theorem xc_X4_skipBlanks : xMc1 mX4_skipBlanks ∈ xwt := xwt_of (xt_2 (List.mem_of_getElem? (i := 25) rfl)) rfl
theorem xc_X4_readClause : xMc1 mX4_readClause ∈ xwt := xwt_of (xt_2 (List.mem_of_getElem? (i := 29) rfl)) rfl
theorem xc_X4_faultOfWord : xMc1 mX4_faultOfWord ∈ xwt := xwt_of (xt_2 (List.mem_of_getElem? (i := 32) rfl)) rfl
theorem xc_X4_blame : xMc1 mX4_blame ∈ xwt := xwt_of (xt_2 (List.mem_of_getElem? (i := 36) rfl)) rfl
theorem xc_X4_readEnd : xMc1 mX4_readEnd ∈ xwt := xwt_of (xt_2 (List.mem_of_getElem? (i := 40) rfl)) rfl
theorem xc_X4_readNumber : xMc1 mX4_readNumber ∈ xwt := xwt_of (xt_2 (List.mem_of_getElem? (i := 44) rfl)) rfl
theorem xc_X4_isFigure : xMc1 mX4_isFigure ∈ xwt := xwt_of (xt_2 (List.mem_of_getElem? (i := 47) rfl)) rfl
theorem xc_X4_readClose : xMc1 mX4_readClose ∈ xwt := xwt_of (xt_2 (List.mem_of_getElem? (i := 52) rfl)) rfl
theorem xc_X2_setEnd : xMc1 mX2_setEnd ∈ xwt := xwt_of (xt_2 (List.mem_of_getElem? (i := 56) rfl)) rfl
theorem xc_X4_readLayer : xMc1 mX4_readLayer ∈ xwt := xwt_of (xt_2 (List.mem_of_getElem? (i := 60) rfl)) rfl
theorem xc_X2_isAboveLayers : xMc1 mX2_isAboveLayers ∈ xwt := xwt_of (xt_2 (List.mem_of_getElem? (i := 64) rfl)) rfl
theorem xc_X2_addLayer : xMc1 mX2_addLayer ∈ xwt := xwt_of (xt_2 (List.mem_of_getElem? (i := 68) rfl)) rfl
theorem xc_X4_readGoer : xMc1 mX4_readGoer ∈ xwt := xwt_of (xt_2 (List.mem_of_getElem? (i := 72) rfl)) rfl
theorem xc_X2_addGoer : xMc1 mX2_addGoer ∈ xwt := xwt_of (xt_2 (List.mem_of_getElem? (i := 76) rfl)) rfl
theorem xc_X4_readPrice : xMc1 mX4_readPrice ∈ xwt := xwt_of (xt_2 (List.mem_of_getElem? (i := 80) rfl)) rfl
theorem xc_X2_setPrice : xMc1 mX2_setPrice ∈ xwt := xwt_of (xt_2 (List.mem_of_getElem? (i := 84) rfl)) rfl
theorem xc_X3_begin : xMc1 mX3_begin ∈ xwt := xwt_of (xt_2 (List.mem_of_getElem? (i := 88) rfl)) rfl
theorem xc_X0_clear : xMc1 mX0_clear ∈ xwt := xwt_of (xt_2 (List.mem_of_getElem? (i := 92) rfl)) rfl
theorem xc_X5_fault : xMc1 mX5_fault ∈ xwt := xwt_of (xt_2 (List.mem_of_getElem? (i := 96) rfl)) rfl
theorem xc_X5_told : xMc1 mX5_told ∈ xwt := xwt_of (xt_2 (List.mem_of_getElem? (i := 100) rfl)) rfl
theorem xc_X3_setOf : xMc1 mX3_setOf ∈ xwt := xwt_of (xt_2 (List.mem_of_getElem? (i := 104) rfl)) rfl
theorem xc_X5_bandBehind : xMc1 mX5_bandBehind ∈ xwt := xwt_of (xt_2 (List.mem_of_getElem? (i := 108) rfl)) rfl
theorem xc_X3_isUp : xMc1 mX3_isUp ∈ xwt := xwt_of (xt_2 (List.mem_of_getElem? (i := 112) rfl)) rfl
theorem xc_X5_paceOf : xMc1 mX5_paceOf ∈ xwt := xwt_of (xt_2 (List.mem_of_getElem? (i := 116) rfl)) rfl
theorem xc_X3_heightOf : xMc1 mX3_heightOf ∈ xwt := xwt_of (xt_2 (List.mem_of_getElem? (i := 120) rfl)) rfl
theorem xc_X2_paceAt : xMc1 mX2_paceAt ∈ xwt := xwt_of (xt_2 (List.mem_of_getElem? (i := 124) rfl)) rfl
theorem xc_X5_older : xMc1 mX5_older ∈ xwt := xwt_of (xt_2 (List.mem_of_getElem? (i := 127) rfl)) rfl
theorem xc_X5_skill : xMc1 mX5_skill ∈ xwt := xwt_of (xt_2 (List.mem_of_getElem? (i := 134) rfl)) rfl
theorem xc_X5_halvedAbove : xMc1 mX5_halvedAbove ∈ xwt := xwt_of (xt_2 (List.mem_of_getElem? (i := 137) rfl)) rfl
theorem xc_X5_youngest : xMc1 mX5_youngest ∈ xwt := xwt_of (xt_2 (List.mem_of_getElem? (i := 141) rfl)) rfl
theorem xc_X5_oldest : xMc1 mX5_oldest ∈ xwt := xwt_of (xt_2 (List.mem_of_getElem? (i := 145) rfl)) rfl
theorem xc_X5_speed : xMc1 mX5_speed ∈ xwt := xwt_of (xt_2 (List.mem_of_getElem? (i := 149) rfl)) rfl
theorem xc_X5_goer : xMc1 mX5_goer ∈ xwt := xwt_of (xt_2 (List.mem_of_getElem? (i := 154) rfl)) rfl
theorem xc_X2_hasGoer : xMc1 mX2_hasGoer ∈ xwt := xwt_of (xt_2 (List.mem_of_getElem? (i := 158) rfl)) rfl
theorem xc_X5_front : xMc1 mX5_front ∈ xwt := xwt_of (xt_2 (List.mem_of_getElem? (i := 163) rfl)) rfl
theorem xc_X5_join : xMc1 mX5_join ∈ xwt := xwt_of (xt_2 (List.mem_of_getElem? (i := 167) rfl)) rfl
theorem xc_X1_push : xMc1 mX1_push ∈ xwt := xwt_of (xt_2 (List.mem_of_getElem? (i := 171) rfl)) rfl
theorem xc_X3_copyFrom : xMc1 mX3_copyFrom ∈ xwt := xwt_of (xt_2 (List.mem_of_getElem? (i := 175) rfl)) rfl
theorem xc_X3_enqueue : xMc1 mX3_enqueue ∈ xwt := xwt_of (xt_2 (List.mem_of_getElem? (i := 180) rfl)) rfl
theorem xc_X5_leave : xMc1 mX5_leave ∈ xwt := xwt_of (xt_2 (List.mem_of_getElem? (i := 184) rfl)) rfl
theorem xc_X3_turnOf : xMc1 mX3_turnOf ∈ xwt := xwt_of (xt_2 (List.mem_of_getElem? (i := 188) rfl)) rfl
theorem xc_X3_dequeue : xMc1 mX3_dequeue ∈ xwt := xwt_of (xt_2 (List.mem_of_getElem? (i := 192) rfl)) rfl
theorem xc_X5_board : xMc1 mX5_board ∈ xwt := xwt_of (xt_2 (List.mem_of_getElem? (i := 196) rfl)) rfl
theorem xc_X3_fillCar : xMc1 mX3_fillCar ∈ xwt := xwt_of (xt_2 (List.mem_of_getElem? (i := 200) rfl)) rfl
theorem xc_X3_inCar : xMc1 mX3_inCar ∈ xwt := xwt_of (xt_2 (List.mem_of_getElem? (i := 204) rfl)) rfl
theorem xc_J6_bitCount_0f7a4 : xMc1 mJ6_bitCount_0f7a4 ∈ xwt := xwt_of (xt_2 (List.mem_of_getElem? (i := 208) rfl)) rfl
theorem xc_X5_car : xMc1 mX5_car ∈ xwt := xwt_of (xt_2 (List.mem_of_getElem? (i := 221) rfl)) rfl
theorem xc_X5_alight : xMc1 mX5_alight ∈ xwt := xwt_of (xt_2 (List.mem_of_getElem? (i := 225) rfl)) rfl
theorem xc_X3_emptyCar : xMc1 mX3_emptyCar ∈ xwt := xwt_of (xt_2 (List.mem_of_getElem? (i := 229) rfl)) rfl
theorem xc_X5_off : xMc1 mX5_off ∈ xwt := xwt_of (xt_2 (List.mem_of_getElem? (i := 233) rfl)) rfl
theorem xc_X5_fetch : xMc1 mX5_fetch ∈ xwt := xwt_of (xt_2 (List.mem_of_getElem? (i := 238) rfl)) rfl
theorem xc_X5_hour : xMc1 mX5_hour ∈ xwt := xwt_of (xt_3 (List.mem_of_getElem? (i := 2) rfl)) rfl
theorem xc_X5_refusalOfHours : xMc1 mX5_refusalOfHours ∈ xwt := xwt_of (xt_3 (List.mem_of_getElem? (i := 6) rfl)) rfl
theorem xc_X3_pass : xMc1 mX3_pass ∈ xwt := xwt_of (xt_3 (List.mem_of_getElem? (i := 11) rfl)) rfl
theorem xc_X5_drift : xMc1 mX5_drift ∈ xwt := xwt_of (xt_3 (List.mem_of_getElem? (i := 19) rfl)) rfl
theorem xc_X5_doByDraw : xMc1 mX5_doByDraw ∈ xwt := xwt_of (xt_3 (List.mem_of_getElem? (i := 23) rfl)) rfl
theorem xc_X5_draw : xMc1 mX5_draw ∈ xwt := xwt_of (xt_3 (List.mem_of_getElem? (i := 27) rfl)) rfl
theorem xc_X5_joinByDraw : xMc1 mX5_joinByDraw ∈ xwt := xwt_of (xt_3 (List.mem_of_getElem? (i := 34) rfl)) rfl
theorem xc_X5_undo : xMc1 mX5_undo ∈ xwt := xwt_of (xt_3 (List.mem_of_getElem? (i := 38) rfl)) rfl
theorem xc_X1_pop : xMc1 mX1_pop ∈ xwt := xwt_of (xt_3 (List.mem_of_getElem? (i := 42) rfl)) rfl
theorem xc_X5_age : xMc1 mX5_age ∈ xwt := xwt_of (xt_3 (List.mem_of_getElem? (i := 46) rfl)) rfl
theorem xc_X5_let : xMc1 mX5_let ∈ xwt := xwt_of (xt_3 (List.mem_of_getElem? (i := 50) rfl)) rfl
theorem xc_X5_same : xMc1 mX5_same ∈ xwt := xwt_of (xt_3 (List.mem_of_getElem? (i := 54) rfl)) rfl
theorem xc_X5_waits : xMc1 mX5_waits ∈ xwt := xwt_of (xt_3 (List.mem_of_getElem? (i := 58) rfl)) rfl
theorem xc_X5_best : xMc1 mX5_best ∈ xwt := xwt_of (xt_3 (List.mem_of_getElem? (i := 62) rfl)) rfl
theorem xc_X5_was : xMc1 mX5_was ∈ xwt := xwt_of (xt_3 (List.mem_of_getElem? (i := 66) rfl)) rfl
theorem xc_X5_meet : xMc1 mX5_meet ∈ xwt := xwt_of (xt_3 (List.mem_of_getElem? (i := 70) rfl)) rfl
theorem xc_X5_bestPrice : xMc1 mX5_bestPrice ∈ xwt := xwt_of (xt_3 (List.mem_of_getElem? (i := 74) rfl)) rfl
theorem xc_X5_wind : xMc1 mX5_wind ∈ xwt := xwt_of (xt_3 (List.mem_of_getElem? (i := 79) rfl)) rfl
theorem xc_X5_see : xMc1 mX5_see ∈ xwt := xwt_of (xt_3 (List.mem_of_getElem? (i := 85) rfl)) rfl
theorem xc_X0_addSeen : xMc1 mX0_addSeen ∈ xwt := xwt_of (xt_3 (List.mem_of_getElem? (i := 89) rfl)) rfl
theorem xc_X5_laws : xMc1 mX5_laws ∈ xwt := xwt_of (xt_3 (List.mem_of_getElem? (i := 93) rfl)) rfl
theorem xc_X0_countLaws : xMc1 mX0_countLaws ∈ xwt := xwt_of (xt_3 (List.mem_of_getElem? (i := 97) rfl)) rfl
theorem xc_X0_lawsFrom : xMc1 mX0_lawsFrom ∈ xwt := xwt_of (xt_3 (List.mem_of_getElem? (i := 101) rfl)) rfl
theorem xc_X0_fitsBelow : xMc1 mX0_fitsBelow ∈ xwt := xwt_of (xt_3 (List.mem_of_getElem? (i := 105) rfl)) rfl
theorem xc_X0_greatestPace : xMc1 mX0_greatestPace ∈ xwt := xwt_of (xt_3 (List.mem_of_getElem? (i := 109) rfl)) rfl
theorem xc_X0_leastPace : xMc1 mX0_leastPace ∈ xwt := xwt_of (xt_3 (List.mem_of_getElem? (i := 114) rfl)) rfl
theorem xc_X0_leastLayer : xMc1 mX0_leastLayer ∈ xwt := xwt_of (xt_3 (List.mem_of_getElem? (i := 119) rfl)) rfl
theorem xc_X5_yard : xMc1 mX5_yard ∈ xwt := xwt_of (xt_3 (List.mem_of_getElem? (i := 124) rfl)) rfl
theorem xc_X0_bestYard : xMc1 mX0_bestYard ∈ xwt := xwt_of (xt_3 (List.mem_of_getElem? (i := 128) rfl)) rfl
theorem xc_X5_feel : xMc1 mX5_feel ∈ xwt := xwt_of (xt_3 (List.mem_of_getElem? (i := 133) rfl)) rfl
theorem xc_X0_addFelt : xMc1 mX0_addFelt ∈ xwt := xwt_of (xt_3 (List.mem_of_getElem? (i := 137) rfl)) rfl
theorem xc_X5_ends : xMc1 mX5_ends ∈ xwt := xwt_of (xt_3 (List.mem_of_getElem? (i := 141) rfl)) rfl
theorem xc_X0_leastEnd : xMc1 mX0_leastEnd ∈ xwt := xwt_of (xt_3 (List.mem_of_getElem? (i := 145) rfl)) rfl
theorem xc_X0_greatestEnd : xMc1 mX0_greatestEnd ∈ xwt := xwt_of (xt_3 (List.mem_of_getElem? (i := 149) rfl)) rfl
theorem xc_X5_write : xMc1 mX5_write ∈ xwt := xwt_of (xt_3 (List.mem_of_getElem? (i := 153) rfl)) rfl
theorem xc_X0_addEntry : xMc1 mX0_addEntry ∈ xwt := xwt_of (xt_3 (List.mem_of_getElem? (i := 158) rfl)) rfl
theorem xc_X5_tear : xMc1 mX5_tear ∈ xwt := xwt_of (xt_3 (List.mem_of_getElem? (i := 162) rfl)) rfl
theorem xc_X5_judge : xMc1 mX5_judge ∈ xwt := xwt_of (xt_3 (List.mem_of_getElem? (i := 166) rfl)) rfl
theorem xc_X0_firstWrong : xMc1 mX0_firstWrong ∈ xwt := xwt_of (xt_3 (List.mem_of_getElem? (i := 170) rfl)) rfl
theorem xc_X5_seed : xMc1 mX5_seed ∈ xwt := xwt_of (xt_3 (List.mem_of_getElem? (i := 174) rfl)) rfl
theorem xc_X5_keep : xMc1 mX5_keep ∈ xwt := xwt_of (xt_3 (List.mem_of_getElem? (i := 178) rfl)) rfl
theorem xc_X5_goBack : xMc1 mX5_goBack ∈ xwt := xwt_of (xt_3 (List.mem_of_getElem? (i := 183) rfl)) rfl
theorem xc_X6_init : xMc1 mX6_init ∈ xwt := xwt_of (xt_3 (List.mem_of_getElem? (i := 188) rfl)) rfl
theorem xc_X6_feed : xMc1 mX6_feed ∈ xwt := xwt_of (xt_4 (List.mem_of_getElem? (i := 80) rfl)) rfl
theorem xc_X6_in : xMc1 mX6_in ∈ xwt := xwt_of (xt_4 (List.mem_of_getElem? (i := 84) rfl)) rfl
theorem xc_X6_fair : xMc1 mX6_fair ∈ xwt := xwt_of (xt_4 (List.mem_of_getElem? (i := 90) rfl)) rfl
theorem xc_X6_here : xMc1 mX6_here ∈ xwt := xwt_of (xt_4 (List.mem_of_getElem? (i := 94) rfl)) rfl
theorem xc_X6_takeClause : xMc1 mX6_takeClause ∈ xwt := xwt_of (xt_4 (List.mem_of_getElem? (i := 98) rfl)) rfl
theorem xc_X6_fails : xMc1 mX6_fails ∈ xwt := xwt_of (xt_4 (List.mem_of_getElem? (i := 102) rfl)) rfl
theorem xc_X6_isFull : xMc1 mX6_isFull ∈ xwt := xwt_of (xt_4 (List.mem_of_getElem? (i := 106) rfl)) rfl
theorem xc_X6_takeFair : xMc1 mX6_takeFair ∈ xwt := xwt_of (xt_4 (List.mem_of_getElem? (i := 110) rfl)) rfl
theorem xc_X6_takeNumber : xMc1 mX6_takeNumber ∈ xwt := xwt_of (xt_4 (List.mem_of_getElem? (i := 114) rfl)) rfl
theorem xc_X6_takeLayer : xMc1 mX6_takeLayer ∈ xwt := xwt_of (xt_4 (List.mem_of_getElem? (i := 120) rfl)) rfl
theorem xc_X6_into : xMc1 mX6_into ∈ xwt := xwt_of (xt_4 (List.mem_of_getElem? (i := 124) rfl)) rfl
theorem xc_X6_takeGoer : xMc1 mX6_takeGoer ∈ xwt := xwt_of (xt_4 (List.mem_of_getElem? (i := 128) rfl)) rfl
theorem xc_X6_takePrice : xMc1 mX6_takePrice ∈ xwt := xwt_of (xt_4 (List.mem_of_getElem? (i := 132) rfl)) rfl
theorem xc_X6_takeRead : xMc1 mX6_takeRead ∈ xwt := xwt_of (xt_4 (List.mem_of_getElem? (i := 136) rfl)) rfl
theorem xc_X6_copyRow : xMc1 mX6_copyRow ∈ xwt := xwt_of (xt_4 (List.mem_of_getElem? (i := 139) rfl)) rfl
theorem xc_X6_fault : xMc1 mX6_fault ∈ xwt := xwt_of (xt_4 (List.mem_of_getElem? (i := 143) rfl)) rfl
theorem xc_X6_told : xMc1 mX6_told ∈ xwt := xwt_of (xt_4 (List.mem_of_getElem? (i := 147) rfl)) rfl
theorem xc_X6_allAt : xMc1 mX6_allAt ∈ xwt := xwt_of (xt_4 (List.mem_of_getElem? (i := 151) rfl)) rfl
theorem xc_X6_bandBehind : xMc1 mX6_bandBehind ∈ xwt := xwt_of (xt_4 (List.mem_of_getElem? (i := 155) rfl)) rfl
theorem xc_X6_isUp : xMc1 mX6_isUp ∈ xwt := xwt_of (xt_4 (List.mem_of_getElem? (i := 159) rfl)) rfl
theorem xc_X6_paceOf : xMc1 mX6_paceOf ∈ xwt := xwt_of (xt_4 (List.mem_of_getElem? (i := 163) rfl)) rfl
theorem xc_X6_heightOf : xMc1 mX6_heightOf ∈ xwt := xwt_of (xt_4 (List.mem_of_getElem? (i := 167) rfl)) rfl
theorem xc_X6_speedAt : xMc1 mX6_speedAt ∈ xwt := xwt_of (xt_4 (List.mem_of_getElem? (i := 171) rfl)) rfl
theorem xc_X6_olderBy : xMc1 mX6_olderBy ∈ xwt := xwt_of (xt_4 (List.mem_of_getElem? (i := 175) rfl)) rfl
theorem xc_X6_skillBy : xMc1 mX6_skillBy ∈ xwt := xwt_of (xt_4 (List.mem_of_getElem? (i := 180) rfl)) rfl
theorem xc_X6_byAge : xMc1 mX6_byAge ∈ xwt := xwt_of (xt_4 (List.mem_of_getElem? (i := 184) rfl)) rfl
theorem xc_X6_speed : xMc1 mX6_speed ∈ xwt := xwt_of (xt_4 (List.mem_of_getElem? (i := 188) rfl)) rfl
theorem xc_X6_goer : xMc1 mX6_goer ∈ xwt := xwt_of (xt_4 (List.mem_of_getElem? (i := 194) rfl)) rfl
theorem xc_X6_isGoer : xMc1 mX6_isGoer ∈ xwt := xwt_of (xt_4 (List.mem_of_getElem? (i := 198) rfl)) rfl
theorem xc_X6_skillOf : xMc1 mX6_skillOf ∈ xwt := xwt_of (xt_4 (List.mem_of_getElem? (i := 203) rfl)) rfl
theorem xc_X6_front : xMc1 mX6_front ∈ xwt := xwt_of (xt_4 (List.mem_of_getElem? (i := 207) rfl)) rfl
theorem xc_X6_join : xMc1 mX6_join ∈ xwt := xwt_of (xt_4 (List.mem_of_getElem? (i := 211) rfl)) rfl
theorem xc_X6_remember : xMc1 mX6_remember ∈ xwt := xwt_of (xt_4 (List.mem_of_getElem? (i := 215) rfl)) rfl
theorem xc_X6_joinNow : xMc1 mX6_joinNow ∈ xwt := xwt_of (xt_4 (List.mem_of_getElem? (i := 219) rfl)) rfl
theorem xc_X6_leave : xMc1 mX6_leave ∈ xwt := xwt_of (xt_4 (List.mem_of_getElem? (i := 223) rfl)) rfl
theorem xc_X6_placeOf : xMc1 mX6_placeOf ∈ xwt := xwt_of (xt_4 (List.mem_of_getElem? (i := 227) rfl)) rfl
theorem xc_X6_takeFromLine : xMc1 mX6_takeFromLine ∈ xwt := xwt_of (xt_4 (List.mem_of_getElem? (i := 231) rfl)) rfl
theorem xc_X6_board : xMc1 mX6_board ∈ xwt := xwt_of (xt_4 (List.mem_of_getElem? (i := 235) rfl)) rfl
theorem xc_X6_boardNow : xMc1 mX6_boardNow ∈ xwt := xwt_of (xt_4 (List.mem_of_getElem? (i := 239) rfl)) rfl
theorem xc_X6_manyAt : xMc1 mX6_manyAt ∈ xwt := xwt_of (xt_5 (List.mem_of_getElem? (i := 3) rfl)) rfl
theorem xc_X6_car : xMc1 mX6_car ∈ xwt := xwt_of (xt_5 (List.mem_of_getElem? (i := 8) rfl)) rfl
theorem xc_X6_alight : xMc1 mX6_alight ∈ xwt := xwt_of (xt_5 (List.mem_of_getElem? (i := 12) rfl)) rfl
theorem xc_X6_alightNow : xMc1 mX6_alightNow ∈ xwt := xwt_of (xt_5 (List.mem_of_getElem? (i := 16) rfl)) rfl
theorem xc_X6_off : xMc1 mX6_off ∈ xwt := xwt_of (xt_5 (List.mem_of_getElem? (i := 20) rfl)) rfl
theorem xc_X6_fetch : xMc1 mX6_fetch ∈ xwt := xwt_of (xt_5 (List.mem_of_getElem? (i := 24) rfl)) rfl
theorem xc_X6_hour : xMc1 mX6_hour ∈ xwt := xwt_of (xt_5 (List.mem_of_getElem? (i := 28) rfl)) rfl
theorem xc_X6_pass : xMc1 mX6_pass ∈ xwt := xwt_of (xt_5 (List.mem_of_getElem? (i := 34) rfl)) rfl
theorem xc_X6_drift : xMc1 mX6_drift ∈ xwt := xwt_of (xt_5 (List.mem_of_getElem? (i := 38) rfl)) rfl
theorem xc_X6_chance : xMc1 mX6_chance ∈ xwt := xwt_of (xt_5 (List.mem_of_getElem? (i := 43) rfl)) rfl
theorem xc_X6_draw : xMc1 mX6_draw ∈ xwt := xwt_of (xt_5 (List.mem_of_getElem? (i := 47) rfl)) rfl
theorem xc_X6_undo : xMc1 mX6_undo ∈ xwt := xwt_of (xt_5 (List.mem_of_getElem? (i := 55) rfl)) rfl
theorem xc_X6_age : xMc1 mX6_age ∈ xwt := xwt_of (xt_5 (List.mem_of_getElem? (i := 59) rfl)) rfl
theorem xc_X6_let : xMc1 mX6_let ∈ xwt := xwt_of (xt_5 (List.mem_of_getElem? (i := 63) rfl)) rfl
theorem xc_X6_same : xMc1 mX6_same ∈ xwt := xwt_of (xt_5 (List.mem_of_getElem? (i := 69) rfl)) rfl
theorem xc_X6_waits : xMc1 mX6_waits ∈ xwt := xwt_of (xt_5 (List.mem_of_getElem? (i := 73) rfl)) rfl
theorem xc_X6_best : xMc1 mX6_best ∈ xwt := xwt_of (xt_5 (List.mem_of_getElem? (i := 77) rfl)) rfl
theorem xc_X6_was : xMc1 mX6_was ∈ xwt := xwt_of (xt_5 (List.mem_of_getElem? (i := 81) rfl)) rfl
theorem xc_X6_meet : xMc1 mX6_meet ∈ xwt := xwt_of (xt_5 (List.mem_of_getElem? (i := 86) rfl)) rfl
theorem xc_X6_bestPrice : xMc1 mX6_bestPrice ∈ xwt := xwt_of (xt_5 (List.mem_of_getElem? (i := 90) rfl)) rfl
theorem xc_X6_wind : xMc1 mX6_wind ∈ xwt := xwt_of (xt_5 (List.mem_of_getElem? (i := 95) rfl)) rfl
theorem xc_X6_see : xMc1 mX6_see ∈ xwt := xwt_of (xt_5 (List.mem_of_getElem? (i := 100) rfl)) rfl
theorem xc_X6_laws : xMc1 mX6_laws ∈ xwt := xwt_of (xt_5 (List.mem_of_getElem? (i := 104) rfl)) rfl
theorem xc_X6_findLaws : xMc1 mX6_findLaws ∈ xwt := xwt_of (xt_5 (List.mem_of_getElem? (i := 108) rfl)) rfl
theorem xc_X6_couldBe : xMc1 mX6_couldBe ∈ xwt := xwt_of (xt_5 (List.mem_of_getElem? (i := 112) rfl)) rfl
theorem xc_X6_firstLaw : xMc1 mX6_firstLaw ∈ xwt := xwt_of (xt_5 (List.mem_of_getElem? (i := 116) rfl)) rfl
theorem xc_X6_allLaws : xMc1 mX6_allLaws ∈ xwt := xwt_of (xt_5 (List.mem_of_getElem? (i := 120) rfl)) rfl
theorem xc_X6_yard : xMc1 mX6_yard ∈ xwt := xwt_of (xt_5 (List.mem_of_getElem? (i := 124) rfl)) rfl
theorem xc_X6_feel : xMc1 mX6_feel ∈ xwt := xwt_of (xt_5 (List.mem_of_getElem? (i := 128) rfl)) rfl
theorem xc_X6_ends : xMc1 mX6_ends ∈ xwt := xwt_of (xt_5 (List.mem_of_getElem? (i := 132) rfl)) rfl
theorem xc_X6_couldEnd : xMc1 mX6_couldEnd ∈ xwt := xwt_of (xt_5 (List.mem_of_getElem? (i := 137) rfl)) rfl
theorem xc_X6_endBehind : xMc1 mX6_endBehind ∈ xwt := xwt_of (xt_5 (List.mem_of_getElem? (i := 141) rfl)) rfl
theorem xc_X6_write : xMc1 mX6_write ∈ xwt := xwt_of (xt_5 (List.mem_of_getElem? (i := 145) rfl)) rfl
theorem xc_X6_tear : xMc1 mX6_tear ∈ xwt := xwt_of (xt_5 (List.mem_of_getElem? (i := 150) rfl)) rfl
theorem xc_X6_judge : xMc1 mX6_judge ∈ xwt := xwt_of (xt_5 (List.mem_of_getElem? (i := 154) rfl)) rfl
theorem xc_X6_seed : xMc1 mX6_seed ∈ xwt := xwt_of (xt_5 (List.mem_of_getElem? (i := 158) rfl)) rfl
theorem xc_X6_keep : xMc1 mX6_keep ∈ xwt := xwt_of (xt_5 (List.mem_of_getElem? (i := 162) rfl)) rfl
theorem xc_X6_goBack : xMc1 mX6_goBack ∈ xwt := xwt_of (xt_5 (List.mem_of_getElem? (i := 166) rfl)) rfl
theorem xall_cons {α : Type} {P : α → Prop} {a : α} {l : List α} (h : P a) (t : ∀ x ∈ l, P x) : ∀ x ∈ a :: l, P x := List.forall_mem_cons.mpr ⟨h, t⟩
set_option maxRecDepth 100000 in
theorem xMT_c1 : ∀ M ∈ xMT, xMc1 M ∈ xwt := xall_cons xc_X5_init ( xall_cons xc_X4_init ( xall_cons xc_X2_init ( xall_cons xc_X3_init ( xall_cons xc_X1_init ( xall_cons xc_X0_init ( xall_cons xc_X5_feed ( xall_cons xc_X5_isOutside ( xall_cons xc_X4_append ( xall_cons xc_X5_fair ( xall_cons xc_X4_readInto ( xall_cons xc_X2_clear ( xall_cons xc_X4_skipBlanks ( xall_cons xc_X4_readClause ( xall_cons xc_X4_faultOfWord ( xall_cons xc_X4_blame ( xall_cons xc_X4_readEnd ( xall_cons xc_X4_readNumber ( xall_cons xc_X4_isFigure ( xall_cons xc_X4_readClose ( xall_cons xc_X2_setEnd ( xall_cons xc_X4_readLayer ( xall_cons xc_X2_isAboveLayers ( xall_cons xc_X2_addLayer ( xall_cons xc_X4_readGoer ( xall_cons xc_X2_addGoer ( xall_cons xc_X4_readPrice ( xall_cons xc_X2_setPrice ( xall_cons xc_X3_begin ( xall_cons xc_X0_clear ( xall_cons xc_X5_fault ( xall_cons xc_X5_told ( xall_cons xc_X3_setOf ( xall_cons xc_X5_bandBehind ( xall_cons xc_X3_isUp ( xall_cons xc_X5_paceOf ( xall_cons xc_X3_heightOf ( xall_cons xc_X2_paceAt ( xall_cons xc_X5_older ( xall_cons xc_X5_skill ( xall_cons xc_X5_halvedAbove ( xall_cons xc_X5_youngest ( xall_cons xc_X5_oldest ( xall_cons xc_X5_speed ( xall_cons xc_X5_goer ( xall_cons xc_X2_hasGoer ( xall_cons xc_X5_front ( xall_cons xc_X5_join ( xall_cons xc_X1_push ( xall_cons xc_X3_copyFrom ( xall_cons xc_X3_enqueue ( xall_cons xc_X5_leave ( xall_cons xc_X3_turnOf ( xall_cons xc_X3_dequeue ( xall_cons xc_X5_board ( xall_cons xc_X3_fillCar ( xall_cons xc_X3_inCar ( xall_cons xc_J6_bitCount_0f7a4 ( xall_cons xc_X5_car ( xall_cons xc_X5_alight ( xall_cons xc_X3_emptyCar ( xall_cons xc_X5_off ( xall_cons xc_X5_fetch ( xall_cons xc_X5_hour ( xall_cons xc_X5_refusalOfHours ( xall_cons xc_X3_pass ( xall_cons xc_X5_drift ( xall_cons xc_X5_doByDraw ( xall_cons xc_X5_draw ( xall_cons xc_X5_joinByDraw ( xall_cons xc_X5_undo ( xall_cons xc_X1_pop ( xall_cons xc_X5_age ( xall_cons xc_X5_let ( xall_cons xc_X5_same ( xall_cons xc_X5_waits ( xall_cons xc_X5_best ( xall_cons xc_X5_was ( xall_cons xc_X5_meet ( xall_cons xc_X5_bestPrice ( xall_cons xc_X5_wind ( xall_cons xc_X5_see ( xall_cons xc_X0_addSeen ( xall_cons xc_X5_laws ( xall_cons xc_X0_countLaws ( xall_cons xc_X0_lawsFrom ( xall_cons xc_X0_fitsBelow ( xall_cons xc_X0_greatestPace ( xall_cons xc_X0_leastPace ( xall_cons xc_X0_leastLayer ( xall_cons xc_X5_yard ( xall_cons xc_X0_bestYard ( xall_cons xc_X5_feel ( xall_cons xc_X0_addFelt ( xall_cons xc_X5_ends ( xall_cons xc_X0_leastEnd ( xall_cons xc_X0_greatestEnd ( xall_cons xc_X5_write ( xall_cons xc_X0_addEntry ( xall_cons xc_X5_tear ( xall_cons xc_X5_judge ( xall_cons xc_X0_firstWrong ( xall_cons xc_X5_seed ( xall_cons xc_X5_keep ( xall_cons xc_X5_goBack ( xall_cons xc_X6_init ( xall_cons xc_X6_feed ( xall_cons xc_X6_in ( xall_cons xc_X6_fair ( xall_cons xc_X6_here ( xall_cons xc_X6_takeClause ( xall_cons xc_X6_fails ( xall_cons xc_X6_isFull ( xall_cons xc_X6_takeFair ( xall_cons xc_X6_takeNumber ( xall_cons xc_X6_takeLayer ( xall_cons xc_X6_into ( xall_cons xc_X6_takeGoer ( xall_cons xc_X6_takePrice ( xall_cons xc_X6_takeRead ( xall_cons xc_X6_copyRow ( xall_cons xc_X6_fault ( xall_cons xc_X6_told ( xall_cons xc_X6_allAt ( xall_cons xc_X6_bandBehind ( xall_cons xc_X6_isUp ( xall_cons xc_X6_paceOf ( xall_cons xc_X6_heightOf ( xall_cons xc_X6_speedAt ( xall_cons xc_X6_olderBy ( xall_cons xc_X6_skillBy ( xall_cons xc_X6_byAge ( xall_cons xc_X6_speed ( xall_cons xc_X6_goer ( xall_cons xc_X6_isGoer ( xall_cons xc_X6_skillOf ( xall_cons xc_X6_front ( xall_cons xc_X6_join ( xall_cons xc_X6_remember ( xall_cons xc_X6_joinNow ( xall_cons xc_X6_leave ( xall_cons xc_X6_placeOf ( xall_cons xc_X6_takeFromLine ( xall_cons xc_X6_board ( xall_cons xc_X6_boardNow ( xall_cons xc_X6_manyAt ( xall_cons xc_X6_car ( xall_cons xc_X6_alight ( xall_cons xc_X6_alightNow ( xall_cons xc_X6_off ( xall_cons xc_X6_fetch ( xall_cons xc_X6_hour ( xall_cons xc_X6_pass ( xall_cons xc_X6_drift ( xall_cons xc_X6_chance ( xall_cons xc_X6_draw ( xall_cons xc_X6_undo ( xall_cons xc_X6_age ( xall_cons xc_X6_let ( xall_cons xc_X6_same ( xall_cons xc_X6_waits ( xall_cons xc_X6_best ( xall_cons xc_X6_was ( xall_cons xc_X6_meet ( xall_cons xc_X6_bestPrice ( xall_cons xc_X6_wind ( xall_cons xc_X6_see ( xall_cons xc_X6_laws ( xall_cons xc_X6_findLaws ( xall_cons xc_X6_couldBe ( xall_cons xc_X6_firstLaw ( xall_cons xc_X6_allLaws ( xall_cons xc_X6_yard ( xall_cons xc_X6_feel ( xall_cons xc_X6_ends ( xall_cons xc_X6_couldEnd ( xall_cons xc_X6_endBehind ( xall_cons xc_X6_write ( xall_cons xc_X6_tear ( xall_cons xc_X6_judge ( xall_cons xc_X6_seed ( xall_cons xc_X6_keep ( xall_cons xc_X6_goBack (fun _ h => absurd h List.not_mem_nil)))))))))))))))))))))))))))))))))))))))))))))))))))))))))))))))))))))))))))))))))))))))))))))))))))))))))))))))))))))))))))))))))))))))))))))))))))))))))))))))))))))))))))))))))))))))
set_option maxRecDepth 100000 in
theorem xMT_c2 : ∀ M ∈ xMT, xMc2 M ∈ xwt := xmem_of [47, 48, 49, 50, 51, 52, 47, 47, 48, 47, 48, 49, 48, 48, 48, 48, 48, 48, 48, 48, 49, 48, 49, 49, 48, 49, 48, 49, 50, 52, 47, 47, 50, 47, 50, 47, 50, 49, 47, 47, 47, 47, 47, 47, 47, 49, 47, 47, 51, 50, 50, 47, 50, 50, 47, 50, 50, 55, 47, 47, 50, 47, 47, 47, 47, 50, 47, 47, 47, 47, 47, 51, 47, 47, 47, 47, 47, 47, 47, 47, 47, 47, 52, 47, 52, 52, 52, 52, 52, 52, 47, 52, 47, 52, 47, 52, 52, 47, 52, 47, 47, 52, 47, 47, 47, 53, 53, 53, 53, 53, 53, 53, 53, 53, 53, 53, 53, 53, 53, 53, 53, 53, 53, 53, 53, 53, 53, 53, 53, 53, 53, 53, 53, 53, 53, 53, 53, 53, 53, 53, 53, 53, 53, 53, 53, 53, 53, 53, 53, 53, 53, 53, 53, 53, 53, 53, 53, 53, 53, 53, 53, 53, 53, 53, 53, 53, 53, 53, 53, 53, 53, 53, 53, 53, 53, 53, 53, 53, 53, 53, 53, 53, 53] (by decide +kernel) (by decide +kernel)
set_option maxRecDepth 100000 in
theorem xMT_c3 : ∀ M ∈ xMT, xMc3 M ∈ xwt := xmem_of [59, 67, 95, 150, 194, 214, 284, 288, 293, 297, 301, 305, 309, 313, 317, 320, 324, 328, 332, 336, 340, 344, 348, 352, 356, 360, 364, 368, 372, 376, 380, 384, 388, 393, 396, 401, 404, 408, 412, 419, 422, 426, 430, 433, 438, 442, 447, 451, 455, 459, 464, 468, 472, 476, 480, 484, 488, 493, 505, 509, 513, 517, 522, 526, 531, 535, 543, 548, 552, 559, 562, 566, 570, 574, 578, 582, 586, 590, 594, 598, 603, 609, 613, 617, 621, 625, 629, 633, 638, 643, 648, 652, 657, 661, 665, 669, 673, 677, 682, 686, 690, 694, 698, 702, 707, 713, 844, 849, 854, 859, 863, 867, 871, 875, 879, 885, 889, 893, 897, 901, 904, 907, 911, 916, 920, 924, 928, 932, 936, 940, 945, 949, 952, 958, 963, 968, 971, 975, 980, 984, 987, 992, 996, 999, 1004, 1008, 1012, 1016, 1021, 1024, 1028, 1032, 1039, 1042, 1048, 1052, 1059, 1063, 1067, 1073, 1077, 1081, 1085, 1090, 1094, 1099, 1104, 1108, 1113, 1117, 1121, 1125, 1128, 1132, 1136, 1142, 1146, 1149, 1154, 1158, 1162, 1166, 1170] (by decide +kernel) (by decide +kernel)
set_option maxRecDepth 100000 in
theorem xMT_c4 : ∀ M ∈ xMT, xMc4 M ∈ xwt := xmem_of [47, 48, 49, 50, 51, 52, 285, 47, 294, 298, 302, 306, 310, 314, 48, 321, 325, 329, 48, 337, 341, 345, 349, 353, 357, 361, 365, 369, 373, 377, 381, 385, 389, 0, 397, 1, 405, 409, 47, 47, 47, 2, 3, 434, 439, 443, 448, 452, 456, 460, 465, 469, 473, 477, 481, 485, 489, 55, 506, 510, 514, 518, 523, 527, 4, 536, 544, 5, 6, 7, 563, 567, 571, 575, 579, 583, 587, 591, 595, 599, 604, 610, 614, 618, 622, 626, 630, 634, 639, 644, 649, 653, 658, 662, 666, 670, 674, 678, 683, 687, 691, 695, 699, 703, 708, 53, 845, 53, 855, 8, 9, 10, 11, 12, 13, 14, 15, 16, 17, 18, 53, 908, 912, 19, 20, 21, 22, 23, 24, 25, 26, 27, 953, 959, 28, 29, 972, 976, 30, 31, 988, 32, 33, 1000, 34, 35, 1013, 1017, 36, 1025, 1029, 1033, 37, 1043, 38, 39, 1060, 1064, 1068, 1074, 1078, 1082, 1086, 1091, 1095, 1100, 1105, 1109, 40, 41, 42, 43, 1129, 1133, 1137, 44, 45, 1150, 1155, 1159, 1163, 1167, 1171] (by decide +kernel) (by decide +kernel)
def xMd (M : xM) : Bool := plainName (mY M).cls && decide ((mY M).cls ≠ "java/lang/invoke/MethodHandle") && decide ((mY M).cls ≠ "java/lang/invoke/VarHandle") && decide ((parseMethodDescriptor (mY M).desc).map (fun d => d.parameters.length) = some (mN M)) && decide ((mY M).cls = xO (mO M)) && (decide (mK M ≠ 1) || decide (mO M < 7)) && (decide (mK M ≠ 2) || (decide ((mY M).name = "<init>") && decide (mR M = none)))
set_option maxRecDepth 100000 in
theorem xMT_d : ∀ M ∈ xMT, xMd M = true := by decide +kernel
theorem xO_cl : ∀ ci, ci < 7 → xO ci = (xCl ci).1 ∧ vwCl[ci]? = some (xCl ci) := by
  intro ci h
  match ci, h with
  | 0, _ => exact ⟨rfl, rfl⟩
  | 1, _ => exact ⟨rfl, rfl⟩
  | 2, _ => exact ⟨rfl, rfl⟩
  | 3, _ => exact ⟨rfl, rfl⟩
  | 4, _ => exact ⟨rfl, rfl⟩
  | 5, _ => exact ⟨rfl, rfl⟩
  | 6, _ => exact ⟨rfl, rfl⟩
  | k + 7, h => exact absurd h (by omega)
def xLay : List (Nat × Nat) := [(5, 10), (4, 6), (7, 240), (2, 11), (7, 6), (7, 6), (7, 8), (7, 8), (2, 11), (7, 6), (7, 6), (7, 8), (7, 8), (3, 9), (7, 8), (7, 8), (7, 8), (7, 8), (7, 8), (1, 3), (9, 16), (3, 9), (7, 8), (7, 8), (7, 8), (7, 8), (7, 8), (3, 9), (7, 8), (7, 8), (7, 8), (7, 8), (7, 8), (3, 9), (7, 8), (7, 8), (7, 8), (7, 8), (7, 8), (3, 9), (7, 8), (7, 8), (7, 8), (7, 8), (7, 8), (3, 9), (7, 8), (7, 8), (7, 8), (7, 8), (7, 8), (3, 9), (7, 8), (7, 8), (7, 8), (7, 8), (7, 8), (3, 9), (7, 8), (7, 8), (7, 8), (7, 8), (7, 8), (3, 9), (7, 8), (7, 8), (7, 8), (7, 8), (7, 8), (3, 9), (7, 8), (7, 8), (7, 8), (7, 8), (7, 8), (3, 9), (7, 8), (7, 8), (7, 8), (7, 8), (7, 8), (3, 9), (7, 8), (7, 8), (7, 8), (7, 8), (7, 8), (3, 9), (7, 8), (7, 8), (7, 8), (7, 8), (7, 8), (3, 9), (7, 8), (7, 8), (7, 8), (7, 8), (7, 8), (3, 9), (7, 8), (7, 8), (7, 8), (7, 8), (7, 8), (3, 9), (7, 8), (7, 8), (7, 8), (7, 8), (7, 8), (3, 9), (7, 8), (7, 8), (7, 8), (7, 8), (7, 8), (9, 2), (3, 9), (7, 8), (7, 8), (7, 8), (7, 8), (7, 8), (3, 9), (7, 8), (7, 8), (7, 8), (7, 8), (7, 8), (7, 2), (8, 2), (0, 10), (7, 6), (7, 6), (8, 6), (7, 6), (7, 6), (7, 15), (7, 15), (6, 42), (7, 6), (7, 6), (7, 8), (7, 8), (7, 44), (7, 240), (7, 6), (7, 6), (7, 8), (7, 8), (7, 704), (7, 6), (7, 6), (8, 6), (7, 901), (7, 6), (7, 6), (7, 15), (7, 15), (7, 90), (8, 2)]
theorem xin0 : ∀ w ∈ u_ws RX0 TX0 10, w ∈ xwt := by
  intro w hw
  have h : u_ws RX0 TX0 10 = ([230, 232, 234, 236, 238, 240, 242, 244, 246, 248] : List Nat).filterMap (fun i => lw_tbl[i]?) := by decide +kernel
  have hg : (u_ws RX0 TX0 10).all goodWord = true := by decide +kernel
  have hw0 := hw
  rw [h] at hw
  obtain ⟨i, -, hi⟩ := List.mem_filterMap.mp hw
  exact xwt_of (List.mem_of_getElem? hi) (List.all_eq_true.mp hg w hw0)
theorem xin1 : ∀ w ∈ u_ws RX1 TX1 3, w ∈ xwt := by
  intro w hw
  have h : u_ws RX1 TX1 3 = ([204, 206, 208] : List Nat).filterMap (fun i => lw_tbl[i]?) := by decide +kernel
  have hg : (u_ws RX1 TX1 3).all goodWord = true := by decide +kernel
  have hw0 := hw
  rw [h] at hw
  obtain ⟨i, -, hi⟩ := List.mem_filterMap.mp hw
  exact xwt_of (List.mem_of_getElem? hi) (List.all_eq_true.mp hg w hw0)
theorem xin2 : ∀ w ∈ u_ws RX2 TX2 11, w ∈ xwt := by
  intro w hw
  have h : u_ws RX2 TX2 11 = ([124, 126, 128, 130, 132, 134, 136, 138, 140, 142, 144] : List Nat).filterMap (fun i => lw_tbl[i]?) := by decide +kernel
  have hg : (u_ws RX2 TX2 11).all goodWord = true := by decide +kernel
  have hw0 := hw
  rw [h] at hw
  obtain ⟨i, -, hi⟩ := List.mem_filterMap.mp hw
  exact xwt_of (List.mem_of_getElem? hi) (List.all_eq_true.mp hg w hw0)
theorem xin3 : ∀ w ∈ u_ws RX3 TX3 9, w ∈ xwt := by
  intro w hw
  have h : u_ws RX3 TX3 9 = ([172, 174, 176, 178, 180, 182, 184, 186, 188] : List Nat).filterMap (fun i => lw_tbl[i]?) := by decide +kernel
  have hg : (u_ws RX3 TX3 9).all goodWord = true := by decide +kernel
  have hw0 := hw
  rw [h] at hw
  obtain ⟨i, -, hi⟩ := List.mem_filterMap.mp hw
  exact xwt_of (List.mem_of_getElem? hi) (List.all_eq_true.mp hg w hw0)
theorem xin4 : ∀ w ∈ u_ws RX4 TX4 6, w ∈ xwt := by
  intro w hw
  have h : u_ws RX4 TX4 6 = ([78, 80, 82, 84, 86, 88] : List Nat).filterMap (fun i => lw_tbl[i]?) := by decide +kernel
  have hg : (u_ws RX4 TX4 6).all goodWord = true := by decide +kernel
  have hw0 := hw
  rw [h] at hw
  obtain ⟨i, -, hi⟩ := List.mem_filterMap.mp hw
  exact xwt_of (List.mem_of_getElem? hi) (List.all_eq_true.mp hg w hw0)
theorem xin5 : ∀ w ∈ u_ws RX5 TX5 10, w ∈ xwt := by
  intro w hw
  have h : u_ws RX5 TX5 10 = ([262, 264, 266, 268, 270, 272, 274, 276, 278, 280] : List Nat).filterMap (fun i => lw_tbl[i]?) := by decide +kernel
  have hg : (u_ws RX5 TX5 10).all goodWord = true := by decide +kernel
  have hw0 := hw
  rw [h] at hw
  obtain ⟨i, -, hi⟩ := List.mem_filterMap.mp hw
  exact xwt_of (List.mem_of_getElem? hi) (List.all_eq_true.mp hg w hw0)
theorem xin6 : ∀ w ∈ u_ws RX6 TX6 42, w ∈ xwt := by
  intro w hw
  have h : u_ws RX6 TX6 42 = ([758, 760, 762, 764, 766, 768, 770, 772, 774, 776, 778, 780, 782, 784, 786, 788, 790, 792, 794, 796, 798, 800, 802, 804, 806, 808, 810, 812, 814, 816, 818, 820, 822, 824, 826, 828, 830, 832, 834, 836, 838, 840] : List Nat).filterMap (fun i => lw_tbl[i]?) := by decide +kernel
  have hg : (u_ws RX6 TX6 42).all goodWord = true := by decide +kernel
  have hw0 := hw
  rw [h] at hw
  obtain ⟨i, -, hi⟩ := List.mem_filterMap.mp hw
  exact xwt_of (List.mem_of_getElem? hi) (List.all_eq_true.mp hg w hw0)
def xty (ci k : Nat) : FieldType := match ci with
  | 0 => tyX0 k
  | 1 => tyX1 k
  | 2 => tyX2 k
  | 3 => tyX3 k
  | 4 => tyX4 k
  | 5 => tyX5 k
  | _ => tyX6 k
theorem xCl_in : ∀ ci, ci < 7 → ∀ w ∈ u_ws (xCl ci).1 (xCl ci).2.1 (xCl ci).2.2, w ∈ xwt := by
  intro ci h
  match ci, h with
  | 0, _ => exact xin0
  | 1, _ => exact xin1
  | 2, _ => exact xin2
  | 3, _ => exact xin3
  | 4, _ => exact xin4
  | 5, _ => exact xin5
  | 6, _ => exact xin6
  | k + 7, h => exact absurd h (by omega)
theorem xCl_ty : ∀ ci, ci < 7 → ∀ k, k < (xCl ci).2.2 → parseFieldDescriptor (xT ci k).2.2.1 = some (xty ci k) := by
  intro ci h
  match ci, h with
  | 0, _ => exact tyX0_ok
  | 1, _ => exact tyX1_ok
  | 2, _ => exact tyX2_ok
  | 3, _ => exact tyX3_ok
  | 4, _ => exact tyX4_ok
  | 5, _ => exact tyX5_ok
  | 6, _ => exact tyX6_ok
  | k + 7, h => exact absurd h (by omega)
theorem xCl_nm : ∀ ci, ci < 7 → ∀ a, a < (xCl ci).2.2 → ∀ b, b < (xCl ci).2.2 → a ≠ b → (xT ci a).2.1 ≠ (xT ci b).2.1 := by
  intro ci h
  match ci, h with
  | 0, _ => exact nmX0
  | 1, _ => exact nmX1
  | 2, _ => exact nmX2
  | 3, _ => exact nmX3
  | 4, _ => exact nmX4
  | 5, _ => exact nmX5
  | 6, _ => exact nmX6
  | k + 7, h => exact absurd h (by omega)
theorem xCl_inst : ∀ ci, ci < 7 → Cond.instantiable (xCl ci).1 (xCl ci).2.2 ∈ xwt := by
  intro ci h
  match ci, h with
  | 0, _ => exact xwt_of (List.mem_of_getElem? (i := 212) (by decide +kernel)) rfl
  | 1, _ => exact xwt_of (List.mem_of_getElem? (i := 192) (by decide +kernel)) rfl
  | 2, _ => exact xwt_of (List.mem_of_getElem? (i := 93) (by decide +kernel)) rfl
  | 3, _ => exact xwt_of (List.mem_of_getElem? (i := 148) (by decide +kernel)) rfl
  | 4, _ => exact xwt_of (List.mem_of_getElem? (i := 65) (by decide +kernel)) rfl
  | 5, _ => exact xwt_of (List.mem_of_getElem? (i := 57) (by decide +kernel)) rfl
  | 6, _ => exact xwt_of (List.mem_of_getElem? (i := 711) (by decide +kernel)) rfl
  | k + 7, h => exact absurd h (by omega)
theorem xCl_ini : ∀ ci, ci < 7 → Cond.initialized (xCl ci).1 ∈ xwt := by
  intro ci h
  match ci, h with
  | 0, _ => exact xwt_of (List.mem_of_getElem? (i := 52) (by decide +kernel)) rfl
  | 1, _ => exact xwt_of (List.mem_of_getElem? (i := 51) (by decide +kernel)) rfl
  | 2, _ => exact xwt_of (List.mem_of_getElem? (i := 49) (by decide +kernel)) rfl
  | 3, _ => exact xwt_of (List.mem_of_getElem? (i := 50) (by decide +kernel)) rfl
  | 4, _ => exact xwt_of (List.mem_of_getElem? (i := 48) (by decide +kernel)) rfl
  | 5, _ => exact xwt_of (List.mem_of_getElem? (i := 47) (by decide +kernel)) rfl
  | 6, _ => exact xwt_of (List.mem_of_getElem? (i := 53) (by decide +kernel)) rfl
  | k + 7, h => exact absurd h (by omega)
theorem xw_ai : Cond.arrayClass .int ∈ xwt := xwt_of (List.mem_of_getElem? (i := 91) (by decide +kernel)) rfl
theorem xw_az : Cond.arrayClass .boolean ∈ xwt := xwt_of (List.mem_of_getElem? (i := 251) (by decide +kernel)) rfl
theorem xw_as : Cond.arrayOver (.object RX3) ∈ lw_tbl := List.mem_of_getElem? (i := 198) (by decide +kernel)
theorem xw_oi : Cond.instanceMethod objectInit ∈ xwt := xwt_of (List.mem_of_getElem? (i := 62) (by decide +kernel)) rfl
theorem xw_oc : Cond.code objectInit ⟨#[0xb1]⟩ 1 none ∈ xwt := xwt_of (List.mem_of_getElem? (i := 63) (by decide +kernel)) rfl
theorem xw_mminc : Cond.code Lib.Math.min.name Lib.Math.min.code 2 (some .int) ∈ xwt := xwt_of (xt_2 (List.mem_of_getElem? (i := 131) rfl)) rfl
theorem xw_mmins : Cond.static Lib.Math.min.name ∈ xwt := xwt_of (List.mem_of_getElem? (i := 416) (by decide +kernel)) rfl
theorem xw_mmaxc : Cond.code Lib.Math.max.name Lib.Math.max.code 2 (some .int) ∈ xwt := xwt_of (xt_2 (List.mem_of_getElem? (i := 214) rfl)) rfl
theorem xw_mmaxs : Cond.static Lib.Math.max.name ∈ xwt := xwt_of (List.mem_of_getElem? (i := 499) (by decide +kernel)) rfl
theorem xw_mi : Cond.initialized "java/lang/Math" ∈ xwt := xwt_of (List.mem_of_getElem? (i := 54) (by decide +kernel)) rfl
theorem xwt_good : ∀ w ∈ xwt, w ∈ lw_tbl ∧ goodWord w = true := fun w h => List.mem_filter.mp h
