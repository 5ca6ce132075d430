/-! the cells of the pad's parts, the pad's own and the reference's: addresses a of a run -/
section WORLDS
abbrev trW (kI : ClassId) (h0 h1 h2 : Nat) (n : Int) (F G : Nat → Int) : va_W := [(h0, .inr (5, [.int (iI n), .ref h1, .ref h2])), (h1, IA kI 24 F), (h2, IA kI 24 G)]
abbrev shW (kI : ClassId) (h0 h1 : Nat) (n : Int) (F : Nat → Int) : va_W := [(h0, .inr (2, [.int (iI n), .ref h1])), (h1, IA kI 800 F)]
abbrev txW (kC : ClassId) (h0 h1 : Nat) (n : Int) (F : Nat → Int) : va_W := [(h0, .inr (4, [.int (iI n), .ref h1])), (h1, IA kC 100 F)]
abbrev hiW (kI : ClassId) (h0 h1 h2 : Nat) (past future ato : Int) (N : Nat → Int) (HS : Nat → Int) : va_W := [(h0, .inr (0, [.int (iI past), .int (iI future), .int (iI ato), .ref h1, .ref h2])), (h1, IA kI 7 N), (h2, IA kI 5600 HS)]
/-- the lines: number, lineOf, tops, bottoms, sizes, begunTops, begunBottoms, ranks; the addresses h 0 .. h 7 -/
abbrev liW (kI : ClassId) (h : Nat → Nat) (n : Int) (lo to bo si bt bb ra : Nat → Int) : va_W := [(h 0, .inr (1, [.int (iI n), .ref (h 1), .ref (h 2), .ref (h 3), .ref (h 4), .ref (h 5), .ref (h 6), .ref (h 7)])), (h 1, IA kI 16 lo), (h 2, IA kI 16 to), (h 3, IA kI 16 bo), (h 4, IA kI 16 si), (h 5, IA kI 16 bt), (h 6, IA kI 16 bb), (h 7, IA kI 16 ra)]
/-- the words: number, order, placeOf, wordOf, lines, sizes, lefts, rights, firsts, wordsIn, firstIn, strokeLefts -/
abbrev woW (kI : ClassId) (h : Nat → Nat) (n : Int) (od pl wo li si le ri fi wi fn sl : Nat → Int) : va_W := [(h 0, .inr (6, [.int (iI n), .ref (h 1), .ref (h 2), .ref (h 3), .ref (h 4), .ref (h 5), .ref (h 6), .ref (h 7), .ref (h 8), .ref (h 9), .ref (h 10), .ref (h 11)])), (h 1, IA kI 16 od), (h 2, IA kI 16 pl), (h 3, IA kI 16 wo), (h 4, IA kI 16 li), (h 5, IA kI 16 si), (h 6, IA kI 16 le), (h 7, IA kI 16 ri), (h 8, IA kI 16 fi), (h 9, IA kI 16 wi), (h 10, IA kI 16 fn), (h 11, IA kI 16 sl)]
abbrev padO (a g w : Nat → Nat) (gap : Int) : Nat × va_E := (a 0, .inr (7, [.ref (a 1), .ref (a 4), .ref (a 6), .ref (a 8), .ref (a 10), .ref (a 13), .ref (g 0), .ref (w 0), .ref (a 36), .int (iI gap)]))
abbrev taW (kI : ClassId) (h0 h1 h2 : Nat) (cells most : Int) (K P : Nat → Int) : va_W := [(h0, .inr (3, [.int (iI cells), .int (iI most), .ref h1, .ref h2])), (h1, IA kI 512 K), (h2, IA kI 512 P)]
/-- the reference's own cell: rows b 1 .. b 20 -/
abbrev mdO (b : Nat → Nat) (gp ke un bu ty pc : Int) (gd : Bool) (rd po ln wd : Int) : Nat × va_E := (b 0, .inr (8, [.ref (b 1), .int (iI gp), .ref (b 2), .int (iI ke), .ref (b 3), .int (iI un), .int (iI bu), .ref (b 4), .ref (b 5), .int (iI ty), .ref (b 6), .int (iI pc), .int (iI (bI gd)), .ref (b 7), .ref (b 8), .int (iI rd), .ref (b 9), .int (iI po), .ref (b 10), .ref (b 11), .ref (b 12), .ref (b 13), .int (iI ln), .ref (b 14), .ref (b 15), .ref (b 16), .ref (b 17), .int (iI wd), .ref (b 18), .ref (b 19), .ref (b 20)]))
end WORLDS
