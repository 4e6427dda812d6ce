theorem fr_0_0 {z : Nat} {r : Nat → Int} : hpfv z 0 r 0 = .ref (z + 1) := hp_fvR (by decide +kernel) (by decide +kernel)
theorem fr_0_1 {z : Nat} {r : Nat → Int} : hpfv z 0 r 1 = .ref (z + 3) := hp_fvR (by decide +kernel) (by decide +kernel)
theorem fr_0_2 {z : Nat} {r : Nat → Int} : hpfv z 0 r 2 = .ref (z + 9) := hp_fvR (by decide +kernel) (by decide +kernel)
theorem fr_0_3 {z : Nat} {r : Nat → Int} : hpfv z 0 r 3 = .ref (z + 15) := hp_fvR (by decide +kernel) (by decide +kernel)
theorem fr_0_4 {z : Nat} {r : Nat → Int} : hpfv z 0 r 4 = .ref (z + 16) := hp_fvR (by decide +kernel) (by decide +kernel)
theorem fr_0_5 {z : Nat} {r : Nat → Int} : hpfv z 0 r 5 = .ref (z + 17) := hp_fvR (by decide +kernel) (by decide +kernel)
theorem fr_0_6 {z : Nat} {r : Nat → Int} : hpfv z 0 r 6 = .ref (z + 70) := hp_fvR (by decide +kernel) (by decide +kernel)
theorem fr_0_7 {z : Nat} {r : Nat → Int} : hpfv z 0 r 7 = .ref (z + 123) := hp_fvR (by decide +kernel) (by decide +kernel)
theorem fr_0_8 {z : Nat} {r : Nat → Int} : hpfv z 0 r 8 = .ref (z + 130) := hp_fvR (by decide +kernel) (by decide +kernel)
theorem fr_0_9 {z : Nat} {r : Nat → Int} : hpfv z 0 r 9 = .ref (z + 141) := hp_fvR (by decide +kernel) (by decide +kernel)
theorem fr_0_10 {z : Nat} {r : Nat → Int} : hpfv z 0 r 10 = .ref (z + 164) := hp_fvR (by decide +kernel) (by decide +kernel)
theorem fr_0_11 {z : Nat} {r : Nat → Int} : hpfv z 0 r 11 = .ref (z + 167) := hp_fvR (by decide +kernel) (by decide +kernel)
theorem fr_0_12 {z : Nat} {r : Nat → Int} : hpfv z 0 r 12 = .ref (z + 168) := hp_fvR (by decide +kernel) (by decide +kernel)
theorem fr_1_0 {z : Nat} {r : Nat → Int} : hpfv z 1 r 0 = .ref (z + 2) := hp_fvR (by decide +kernel) (by decide +kernel)
theorem fr_3_0 {z : Nat} {r : Nat → Int} : hpfv z 3 r 0 = .ref (z + 4) := hp_fvR (by decide +kernel) (by decide +kernel)
theorem fr_3_1 {z : Nat} {r : Nat → Int} : hpfv z 3 r 1 = .ref (z + 5) := hp_fvR (by decide +kernel) (by decide +kernel)
theorem fr_3_2 {z : Nat} {r : Nat → Int} : hpfv z 3 r 2 = .ref (z + 6) := hp_fvR (by decide +kernel) (by decide +kernel)
theorem fr_3_3 {z : Nat} {r : Nat → Int} : hpfv z 3 r 3 = .ref (z + 7) := hp_fvR (by decide +kernel) (by decide +kernel)
theorem fr_3_4 {z : Nat} {r : Nat → Int} : hpfv z 3 r 4 = .ref (z + 8) := hp_fvR (by decide +kernel) (by decide +kernel)
theorem fr_9_0 {z : Nat} {r : Nat → Int} : hpfv z 9 r 0 = .ref (z + 10) := hp_fvR (by decide +kernel) (by decide +kernel)
theorem fr_9_1 {z : Nat} {r : Nat → Int} : hpfv z 9 r 1 = .ref (z + 11) := hp_fvR (by decide +kernel) (by decide +kernel)
theorem fr_9_2 {z : Nat} {r : Nat → Int} : hpfv z 9 r 2 = .ref (z + 12) := hp_fvR (by decide +kernel) (by decide +kernel)
theorem fr_123_0 {z : Nat} {r : Nat → Int} : hpfv z 123 r 0 = .ref (z + 124) := hp_fvR (by decide +kernel) (by decide +kernel)
theorem fr_123_1 {z : Nat} {r : Nat → Int} : hpfv z 123 r 1 = .ref (z + 127) := hp_fvR (by decide +kernel) (by decide +kernel)
theorem fr_130_0 {z : Nat} {r : Nat → Int} : hpfv z 130 r 0 = .ref (z + 131) := hp_fvR (by decide +kernel) (by decide +kernel)
theorem fr_130_1 {z : Nat} {r : Nat → Int} : hpfv z 130 r 1 = .ref (z + 132) := hp_fvR (by decide +kernel) (by decide +kernel)
theorem fr_130_2 {z : Nat} {r : Nat → Int} : hpfv z 130 r 2 = .ref (z + 133) := hp_fvR (by decide +kernel) (by decide +kernel)
theorem fr_130_3 {z : Nat} {r : Nat → Int} : hpfv z 130 r 3 = .ref (z + 134) := hp_fvR (by decide +kernel) (by decide +kernel)
theorem fr_130_4 {z : Nat} {r : Nat → Int} : hpfv z 130 r 4 = .ref (z + 135) := hp_fvR (by decide +kernel) (by decide +kernel)
theorem fr_130_5 {z : Nat} {r : Nat → Int} : hpfv z 130 r 5 = .ref (z + 136) := hp_fvR (by decide +kernel) (by decide +kernel)
theorem fr_130_6 {z : Nat} {r : Nat → Int} : hpfv z 130 r 6 = .ref (z + 137) := hp_fvR (by decide +kernel) (by decide +kernel)
theorem fr_130_7 {z : Nat} {r : Nat → Int} : hpfv z 130 r 7 = .ref (z + 138) := hp_fvR (by decide +kernel) (by decide +kernel)
theorem fr_141_0 {z : Nat} {r : Nat → Int} : hpfv z 141 r 0 = .ref (z + 142) := hp_fvR (by decide +kernel) (by decide +kernel)
theorem fr_141_1 {z : Nat} {r : Nat → Int} : hpfv z 141 r 1 = .ref (z + 143) := hp_fvR (by decide +kernel) (by decide +kernel)
theorem wd_1 : Cond.initialized "TurfHeaps" ∈ hpT := hpT_of 1 (by decide +kernel) (by decide +kernel)
theorem wd_2 : Cond.initialized "TurfHeaps$Tape" ∈ hpT := hpT_of 2 (by decide +kernel) (by decide +kernel)
theorem wd_3 : Cond.initialized "TurfHeaps$Moor" ∈ hpT := hpT_of 3 (by decide +kernel) (by decide +kernel)
theorem wd_4 : Cond.initialized "TurfHeaps$Season" ∈ hpT := hpT_of 4 (by decide +kernel) (by decide +kernel)
theorem wd_5 : Cond.initialized "TurfHeaps$Row" ∈ hpT := hpT_of 5 (by decide +kernel) (by decide +kernel)
theorem wd_6 : Cond.initialized "TurfHeaps$Round" ∈ hpT := hpT_of 6 (by decide +kernel) (by decide +kernel)
theorem wd_7 : Cond.initialized "TurfHeaps$Every" ∈ hpT := hpT_of 7 (by decide +kernel) (by decide +kernel)
theorem wd_8 : Cond.initialized "TurfHeaps$Seen" ∈ hpT := hpT_of 8 (by decide +kernel) (by decide +kernel)
theorem wd_9 : Cond.initialized "TurfHeaps$Slot" ∈ hpT := hpT_of 9 (by decide +kernel) (by decide +kernel)
theorem wd_15 : Cond.initialized "java/lang/Math" ∈ hpT := hpT_of 15 (by decide +kernel) (by decide +kernel)
theorem wd_16 : Cond.initialized "java/lang/System" ∈ hpT := hpT_of 16 (by decide +kernel) (by decide +kernel)
theorem wd_32 : Cond.fieldLink "TurfHeaps$Tape" 9 "TurfHeaps$Tape" "bytes" "[B" ∈ hpT := hpT_of 32 (by decide +kernel) (by decide +kernel)
theorem wd_34 : Cond.fieldLink "TurfHeaps$Tape" 19 "TurfHeaps$Tape" "size" "I" ∈ hpT := hpT_of 34 (by decide +kernel) (by decide +kernel)
theorem wd_35 : Cond.fieldLink "TurfHeaps$Tape" 27 "TurfHeaps$Tape" "fault" "I" ∈ hpT := hpT_of 35 (by decide +kernel) (by decide +kernel)
theorem wd_37 : Cond.fieldLink "TurfHeaps$Tape" 15 "TurfHeaps$Tape" "faultPlace" "I" ∈ hpT := hpT_of 37 (by decide +kernel) (by decide +kernel)
theorem wd_39 : Cond.fieldLink "TurfHeaps$Tape" 30 "TurfHeaps$Tape" "place" "I" ∈ hpT := hpT_of 39 (by decide +kernel) (by decide +kernel)
theorem wd_40 : Cond.fieldLink "TurfHeaps$Tape" 36 "TurfHeaps$Tape" "kind" "I" ∈ hpT := hpT_of 40 (by decide +kernel) (by decide +kernel)
theorem wd_41 : Cond.fieldLink "TurfHeaps$Tape" 113 "TurfHeaps$Tape" "start" "I" ∈ hpT := hpT_of 41 (by decide +kernel) (by decide +kernel)
theorem wd_64 : Cond.fieldLink "TurfHeaps$Moor" 9 "TurfHeaps$Moor" "told" "[I" ∈ hpT := hpT_of 64 (by decide +kernel) (by decide +kernel)
theorem wd_68 : Cond.fieldLink "TurfHeaps$Moor" 15 "TurfHeaps$Moor" "cartTurfs" "[I" ∈ hpT := hpT_of 68 (by decide +kernel) (by decide +kernel)
theorem wd_72 : Cond.fieldLink "TurfHeaps$Moor" 18 "TurfHeaps$Moor" "cartDay" "[I" ∈ hpT := hpT_of 72 (by decide +kernel) (by decide +kernel)
theorem wd_76 : Cond.fieldLink "TurfHeaps$Moor" 21 "TurfHeaps$Moor" "actTurfs" "[I" ∈ hpT := hpT_of 76 (by decide +kernel) (by decide +kernel)
theorem wd_79 : Cond.fieldLink "TurfHeaps$Moor" 24 "TurfHeaps$Moor" "actDay" "[I" ∈ hpT := hpT_of 79 (by decide +kernel) (by decide +kernel)
theorem wd_82 : Cond.fieldLink "TurfHeaps$Moor" 27 "TurfHeaps$Moor" "days" "I" ∈ hpT := hpT_of 82 (by decide +kernel) (by decide +kernel)
theorem wd_87 : Cond.fieldLink "TurfHeaps$Moor" 31 "TurfHeaps$Moor" "law" "I" ∈ hpT := hpT_of 87 (by decide +kernel) (by decide +kernel)
theorem wd_90 : Cond.fieldLink "TurfHeaps$Moor" 34 "TurfHeaps$Moor" "odds" "I" ∈ hpT := hpT_of 90 (by decide +kernel) (by decide +kernel)
theorem wd_93 : Cond.fieldLink "TurfHeaps$Moor" 37 "TurfHeaps$Moor" "lines" "I" ∈ hpT := hpT_of 93 (by decide +kernel) (by decide +kernel)
theorem wd_96 : Cond.fieldLink "TurfHeaps$Moor" 40 "TurfHeaps$Moor" "heapsTold" "I" ∈ hpT := hpT_of 96 (by decide +kernel) (by decide +kernel)
theorem wd_100 : Cond.fieldLink "TurfHeaps$Moor" 43 "TurfHeaps$Moor" "carts" "I" ∈ hpT := hpT_of 100 (by decide +kernel) (by decide +kernel)
theorem wd_104 : Cond.fieldLink "TurfHeaps$Moor" 46 "TurfHeaps$Moor" "acts" "I" ∈ hpT := hpT_of 104 (by decide +kernel) (by decide +kernel)
theorem wd_152 : Cond.fieldLink "TurfHeaps$Row" 11 "TurfHeaps$Row" "high" "[I" ∈ hpT := hpT_of 152 (by decide +kernel) (by decide +kernel)
theorem wd_155 : Cond.fieldLink "TurfHeaps$Row" 15 "TurfHeaps$Row" "times" "[I" ∈ hpT := hpT_of 155 (by decide +kernel) (by decide +kernel)
theorem wd_157 : Cond.fieldLink "TurfHeaps$Row" 18 "TurfHeaps$Row" "runs" "I" ∈ hpT := hpT_of 157 (by decide +kernel) (by decide +kernel)
theorem wd_160 : Cond.fieldLink "TurfHeaps$Row" 22 "TurfHeaps$Row" "heaps" "I" ∈ hpT := hpT_of 160 (by decide +kernel) (by decide +kernel)
theorem wd_165 : Cond.fieldLink "TurfHeaps$Row" 25 "TurfHeaps$Row" "turfs" "I" ∈ hpT := hpT_of 165 (by decide +kernel) (by decide +kernel)
theorem wd_179 : Cond.fieldLink "TurfHeaps$Season" 11 "TurfHeaps$Season" "rows" "[LTurfHeaps$Row;" ∈ hpT := hpT_of 179 (by decide +kernel) (by decide +kernel)
theorem wd_180 : Cond.fieldLink "TurfHeaps$Season" 24 "TurfHeaps$Season" "law" "I" ∈ hpT := hpT_of 180 (by decide +kernel) (by decide +kernel)
theorem wd_182 : Cond.fieldLink "TurfHeaps$Season" 25 "TurfHeaps$Season" "set" "I" ∈ hpT := hpT_of 182 (by decide +kernel) (by decide +kernel)
theorem wd_184 : Cond.fieldLink "TurfHeaps$Season" 28 "TurfHeaps$Season" "late" "I" ∈ hpT := hpT_of 184 (by decide +kernel) (by decide +kernel)
theorem wd_186 : Cond.fieldLink "TurfHeaps$Season" 31 "TurfHeaps$Season" "wet" "I" ∈ hpT := hpT_of 186 (by decide +kernel) (by decide +kernel)
theorem wd_188 : Cond.fieldLink "TurfHeaps$Season" 34 "TurfHeaps$Season" "moreDay" "I" ∈ hpT := hpT_of 188 (by decide +kernel) (by decide +kernel)
theorem wd_190 : Cond.fieldLink "TurfHeaps$Season" 37 "TurfHeaps$Season" "moreTurfs" "I" ∈ hpT := hpT_of 190 (by decide +kernel) (by decide +kernel)
theorem wd_192 : Cond.fieldLink "TurfHeaps$Season" 40 "TurfHeaps$Season" "otherHeap" "I" ∈ hpT := hpT_of 192 (by decide +kernel) (by decide +kernel)
theorem wd_194 : Cond.fieldLink "TurfHeaps$Season" 43 "TurfHeaps$Season" "otherTurfs" "I" ∈ hpT := hpT_of 194 (by decide +kernel) (by decide +kernel)
theorem wd_223 : Cond.fieldLink "TurfHeaps$Round" 12 "TurfHeaps$Round" "slow" "LTurfHeaps$Row;" ∈ hpT := hpT_of 223 (by decide +kernel) (by decide +kernel)
theorem wd_224 : Cond.fieldLink "TurfHeaps$Round" 18 "TurfHeaps$Round" "fast" "LTurfHeaps$Row;" ∈ hpT := hpT_of 224 (by decide +kernel) (by decide +kernel)
theorem wd_225 : Cond.fieldLink "TurfHeaps$Round" 32 "TurfHeaps$Round" "steps" "I" ∈ hpT := hpT_of 225 (by decide +kernel) (by decide +kernel)
theorem wd_227 : Cond.fieldLink "TurfHeaps$Round" 25 "TurfHeaps$Round" "turn" "I" ∈ hpT := hpT_of 227 (by decide +kernel) (by decide +kernel)
theorem wd_229 : Cond.fieldLink "TurfHeaps$Round" 35 "TurfHeaps$Round" "mostHeaps" "I" ∈ hpT := hpT_of 229 (by decide +kernel) (by decide +kernel)
theorem wd_231 : Cond.fieldLink "TurfHeaps$Round" 38 "TurfHeaps$Round" "firstStair" "I" ∈ hpT := hpT_of 231 (by decide +kernel) (by decide +kernel)
theorem wd_254 : Cond.fieldLink "TurfHeaps$Every" 11 "TurfHeaps$Every" "codes" "[J" ∈ hpT := hpT_of 254 (by decide +kernel) (by decide +kernel)
theorem wd_255 : Cond.fieldLink "TurfHeaps$Every" 15 "TurfHeaps$Every" "next" "[I" ∈ hpT := hpT_of 255 (by decide +kernel) (by decide +kernel)
theorem wd_256 : Cond.fieldLink "TurfHeaps$Every" 19 "TurfHeaps$Every" "comers" "[I" ∈ hpT := hpT_of 256 (by decide +kernel) (by decide +kernel)
theorem wd_257 : Cond.fieldLink "TurfHeaps$Every" 22 "TurfHeaps$Every" "waiting" "[I" ∈ hpT := hpT_of 257 (by decide +kernel) (by decide +kernel)
theorem wd_258 : Cond.fieldLink "TurfHeaps$Every" 25 "TurfHeaps$Every" "order" "[I" ∈ hpT := hpT_of 258 (by decide +kernel) (by decide +kernel)
theorem wd_259 : Cond.fieldLink "TurfHeaps$Every" 28 "TurfHeaps$Every" "tails" "[I" ∈ hpT := hpT_of 259 (by decide +kernel) (by decide +kernel)
theorem wd_260 : Cond.fieldLink "TurfHeaps$Every" 31 "TurfHeaps$Every" "parts" "[I" ∈ hpT := hpT_of 260 (by decide +kernel) (by decide +kernel)
theorem wd_261 : Cond.fieldLink "TurfHeaps$Every" 37 "TurfHeaps$Every" "row" "LTurfHeaps$Row;" ∈ hpT := hpT_of 261 (by decide +kernel) (by decide +kernel)
theorem wd_262 : Cond.fieldLink "TurfHeaps$Every" 59 "TurfHeaps$Every" "size" "I" ∈ hpT := hpT_of 262 (by decide +kernel) (by decide +kernel)
theorem wd_264 : Cond.fieldLink "TurfHeaps$Every" 62 "TurfHeaps$Every" "onRings" "I" ∈ hpT := hpT_of 264 (by decide +kernel) (by decide +kernel)
theorem wd_266 : Cond.fieldLink "TurfHeaps$Every" 130 "TurfHeaps$Every" "ringCount" "I" ∈ hpT := hpT_of 266 (by decide +kernel) (by decide +kernel)
theorem wd_268 : Cond.fieldLink "TurfHeaps$Every" 121 "TurfHeaps$Every" "notComeTo" "I" ∈ hpT := hpT_of 268 (by decide +kernel) (by decide +kernel)
theorem wd_270 : Cond.fieldLink "TurfHeaps$Every" 124 "TurfHeaps$Every" "longestTail" "I" ∈ hpT := hpT_of 270 (by decide +kernel) (by decide +kernel)
theorem wd_272 : Cond.fieldLink "TurfHeaps$Every" 45 "TurfHeaps$Every" "ofTurfs" "I" ∈ hpT := hpT_of 272 (by decide +kernel) (by decide +kernel)
theorem wd_273 : Cond.fieldLink "TurfHeaps$Every" 41 "TurfHeaps$Every" "byLaw" "I" ∈ hpT := hpT_of 273 (by decide +kernel) (by decide +kernel)
theorem wd_314 : Cond.fieldLink "TurfHeaps$Seen" 9 "TurfHeaps$Seen" "turfs" "[I" ∈ hpT := hpT_of 314 (by decide +kernel) (by decide +kernel)
theorem wd_315 : Cond.fieldLink "TurfHeaps$Seen" 17 "TurfHeaps$Seen" "heaps" "[[I" ∈ hpT := hpT_of 315 (by decide +kernel) (by decide +kernel)
theorem wd_316 : Cond.fieldLink "TurfHeaps$Seen" 20 "TurfHeaps$Seen" "possible" "I" ∈ hpT := hpT_of 316 (by decide +kernel) (by decide +kernel)
theorem wd_332 : Cond.fieldLink "TurfHeaps$Slot" 9 "TurfHeaps$Slot" "numbers" "[J" ∈ hpT := hpT_of 332 (by decide +kernel) (by decide +kernel)
theorem wd_334 : Cond.fieldLink "TurfHeaps$Slot" 15 "TurfHeaps$Slot" "has" "Z" ∈ hpT := hpT_of 334 (by decide +kernel) (by decide +kernel)
theorem wd_336 : Cond.fieldLink "TurfHeaps$Slot" 19 "TurfHeaps$Slot" "width" "I" ∈ hpT := hpT_of 336 (by decide +kernel) (by decide +kernel)
theorem wd_338 : Cond.fieldLink "TurfHeaps$Slot" 23 "TurfHeaps$Slot" "size" "I" ∈ hpT := hpT_of 338 (by decide +kernel) (by decide +kernel)
theorem wd_349 : Cond.fieldLink "TurfHeaps" 12 "TurfHeaps" "tape" "LTurfHeaps$Tape;" ∈ hpT := hpT_of 349 (by decide +kernel) (by decide +kernel)
theorem wd_350 : Cond.fieldLink "TurfHeaps" 19 "TurfHeaps" "moor" "LTurfHeaps$Moor;" ∈ hpT := hpT_of 350 (by decide +kernel) (by decide +kernel)
theorem wd_351 : Cond.fieldLink "TurfHeaps" 23 "TurfHeaps" "fresh" "LTurfHeaps$Moor;" ∈ hpT := hpT_of 351 (by decide +kernel) (by decide +kernel)
theorem wd_352 : Cond.fieldLink "TurfHeaps" 26 "TurfHeaps" "images" "[LTurfHeaps$Moor;" ∈ hpT := hpT_of 352 (by decide +kernel) (by decide +kernel)
theorem wd_353 : Cond.fieldLink "TurfHeaps" 32 "TurfHeaps" "slots" "[LTurfHeaps$Slot;" ∈ hpT := hpT_of 353 (by decide +kernel) (by decide +kernel)
theorem wd_354 : Cond.fieldLink "TurfHeaps" 39 "TurfHeaps" "now" "LTurfHeaps$Season;" ∈ hpT := hpT_of 354 (by decide +kernel) (by decide +kernel)
theorem wd_355 : Cond.fieldLink "TurfHeaps" 43 "TurfHeaps" "varied" "LTurfHeaps$Season;" ∈ hpT := hpT_of 355 (by decide +kernel) (by decide +kernel)
theorem wd_356 : Cond.fieldLink "TurfHeaps" 49 "TurfHeaps" "round" "LTurfHeaps$Round;" ∈ hpT := hpT_of 356 (by decide +kernel) (by decide +kernel)
theorem wd_357 : Cond.fieldLink "TurfHeaps" 56 "TurfHeaps" "every" "LTurfHeaps$Every;" ∈ hpT := hpT_of 357 (by decide +kernel) (by decide +kernel)
theorem wd_358 : Cond.fieldLink "TurfHeaps" 63 "TurfHeaps" "seen" "LTurfHeaps$Seen;" ∈ hpT := hpT_of 358 (by decide +kernel) (by decide +kernel)
theorem wd_359 : Cond.fieldLink "TurfHeaps" 70 "TurfHeaps" "loose" "LTurfHeaps$Row;" ∈ hpT := hpT_of 359 (by decide +kernel) (by decide +kernel)
theorem wd_360 : Cond.fieldLink "TurfHeaps" 74 "TurfHeaps" "worths" "[I" ∈ hpT := hpT_of 360 (by decide +kernel) (by decide +kernel)
theorem wd_361 : Cond.fieldLink "TurfHeaps" 78 "TurfHeaps" "pays" "[I" ∈ hpT := hpT_of 361 (by decide +kernel) (by decide +kernel)
theorem wd_362 : Cond.fieldLink "TurfHeaps" 414 "TurfHeaps" "passed" "Z" ∈ hpT := hpT_of 362 (by decide +kernel) (by decide +kernel)
theorem wd_363 : Cond.fieldLink "TurfHeaps" 417 "TurfHeaps" "worthsKnown" "Z" ∈ hpT := hpT_of 363 (by decide +kernel) (by decide +kernel)
theorem wd_364 : Cond.fieldLink "TurfHeaps" 81 "TurfHeaps" "roundDay" "I" ∈ hpT := hpT_of 364 (by decide +kernel) (by decide +kernel)
theorem wd_404 : Cond.instanceMethod (⟨"TurfHeaps$Tape", "put", "(I)V"⟩ : MethodName) ∈ hpT := hpT_of 404 (by decide +kernel) (by decide +kernel)
theorem wd_405 : Cond.code (⟨"TurfHeaps$Tape", "put", "(I)V"⟩ : MethodName) prog_9_method_2_code 3 (none : Option FieldType) ∈ hpT := hpT_of 405 (by decide +kernel) (by decide +kernel)
theorem wd_416 : Cond.instanceMethod (⟨"TurfHeaps$Tape", "readInto", "(LTurfHeaps$Moor;)Z"⟩ : MethodName) ∈ hpT := hpT_of 416 (by decide +kernel) (by decide +kernel)
theorem wd_417 : Cond.code (⟨"TurfHeaps$Tape", "readInto", "(LTurfHeaps$Moor;)Z"⟩ : MethodName) prog_9_method_3_code 3 (some FieldType.boolean) ∈ hpT := hpT_of 417 (by decide +kernel) (by decide +kernel)
theorem wd_420 : Cond.instanceMethod (⟨"TurfHeaps$Moor", "clear", "()V"⟩ : MethodName) ∈ hpT := hpT_of 420 (by decide +kernel) (by decide +kernel)
theorem wd_421 : Cond.code (⟨"TurfHeaps$Moor", "clear", "()V"⟩ : MethodName) prog_3_method_2_code 1 (none : Option FieldType) ∈ hpT := hpT_of 421 (by decide +kernel) (by decide +kernel)
theorem wd_422 : Cond.methodLink "TurfHeaps$Tape" 33 (⟨"TurfHeaps$Tape", "nextToken", "()V"⟩ : MethodName) ∈ hpT := hpT_of 422 (by decide +kernel) (by decide +kernel)
theorem wd_424 : Cond.instanceMethod (⟨"TurfHeaps$Tape", "nextToken", "()V"⟩ : MethodName) ∈ hpT := hpT_of 424 (by decide +kernel) (by decide +kernel)
theorem wd_425 : Cond.code (⟨"TurfHeaps$Tape", "nextToken", "()V"⟩ : MethodName) prog_9_method_11_code 2 (none : Option FieldType) ∈ hpT := hpT_of 425 (by decide +kernel) (by decide +kernel)
theorem wd_426 : Cond.methodLink "TurfHeaps$Tape" 116 (⟨"TurfHeaps$Tape", "isBlank", "(B)Z"⟩ : MethodName) ∈ hpT := hpT_of 426 (by decide +kernel) (by decide +kernel)
theorem wd_427 : Cond.static (⟨"TurfHeaps$Tape", "isBlank", "(B)Z"⟩ : MethodName) ∈ hpT := hpT_of 427 (by decide +kernel) (by decide +kernel)
theorem wd_428 : Cond.code (⟨"TurfHeaps$Tape", "isBlank", "(B)Z"⟩ : MethodName) prog_9_method_14_code 1 (some FieldType.boolean) ∈ hpT := hpT_of 428 (by decide +kernel) (by decide +kernel)
theorem wd_429 : Cond.methodLink "TurfHeaps$Tape" 120 (⟨"TurfHeaps$Tape", "isLetter", "(B)Z"⟩ : MethodName) ∈ hpT := hpT_of 429 (by decide +kernel) (by decide +kernel)
theorem wd_430 : Cond.static (⟨"TurfHeaps$Tape", "isLetter", "(B)Z"⟩ : MethodName) ∈ hpT := hpT_of 430 (by decide +kernel) (by decide +kernel)
theorem wd_431 : Cond.code (⟨"TurfHeaps$Tape", "isLetter", "(B)Z"⟩ : MethodName) prog_9_method_15_code 1 (some FieldType.boolean) ∈ hpT := hpT_of 431 (by decide +kernel) (by decide +kernel)
theorem wd_432 : Cond.methodLink "TurfHeaps$Tape" 123 (⟨"TurfHeaps$Tape", "isDigit", "(B)Z"⟩ : MethodName) ∈ hpT := hpT_of 432 (by decide +kernel) (by decide +kernel)
theorem wd_433 : Cond.static (⟨"TurfHeaps$Tape", "isDigit", "(B)Z"⟩ : MethodName) ∈ hpT := hpT_of 433 (by decide +kernel) (by decide +kernel)
theorem wd_434 : Cond.code (⟨"TurfHeaps$Tape", "isDigit", "(B)Z"⟩ : MethodName) prog_9_method_16_code 1 (some FieldType.boolean) ∈ hpT := hpT_of 434 (by decide +kernel) (by decide +kernel)
theorem wd_435 : Cond.methodLink "TurfHeaps$Tape" 39 (⟨"TurfHeaps$Tape", "readLine", "(LTurfHeaps$Moor;)V"⟩ : MethodName) ∈ hpT := hpT_of 435 (by decide +kernel) (by decide +kernel)
theorem wd_437 : Cond.instanceMethod (⟨"TurfHeaps$Tape", "readLine", "(LTurfHeaps$Moor;)V"⟩ : MethodName) ∈ hpT := hpT_of 437 (by decide +kernel) (by decide +kernel)
theorem wd_438 : Cond.code (⟨"TurfHeaps$Tape", "readLine", "(LTurfHeaps$Moor;)V"⟩ : MethodName) prog_9_method_4_code 2 (none : Option FieldType) ∈ hpT := hpT_of 438 (by decide +kernel) (by decide +kernel)
theorem wd_439 : Cond.methodLink "TurfHeaps$Tape" 46 (⟨"TurfHeaps$Tape", "readFirst", "(LTurfHeaps$Moor;)V"⟩ : MethodName) ∈ hpT := hpT_of 439 (by decide +kernel) (by decide +kernel)
theorem wd_441 : Cond.instanceMethod (⟨"TurfHeaps$Tape", "readFirst", "(LTurfHeaps$Moor;)V"⟩ : MethodName) ∈ hpT := hpT_of 441 (by decide +kernel) (by decide +kernel)
theorem wd_442 : Cond.code (⟨"TurfHeaps$Tape", "readFirst", "(LTurfHeaps$Moor;)V"⟩ : MethodName) prog_9_method_5_code 2 (none : Option FieldType) ∈ hpT := hpT_of 442 (by decide +kernel) (by decide +kernel)
theorem wd_444 : Cond.methodLink "TurfHeaps$Tape" 51 (⟨"TurfHeaps$Tape", "isWord", "(Ljava/lang/String;)Z"⟩ : MethodName) ∈ hpT := hpT_of 444 (by decide +kernel) (by decide +kernel)
theorem wd_446 : Cond.instanceMethod (⟨"TurfHeaps$Tape", "isWord", "(Ljava/lang/String;)Z"⟩ : MethodName) ∈ hpT := hpT_of 446 (by decide +kernel) (by decide +kernel)
theorem wd_447 : Cond.code (⟨"TurfHeaps$Tape", "isWord", "(Ljava/lang/String;)Z"⟩ : MethodName) prog_9_method_12_code 3 (some FieldType.boolean) ∈ hpT := hpT_of 447 (by decide +kernel) (by decide +kernel)
theorem wd_448 : Cond.methodLink "TurfHeaps$Tape" 126 (⟨"java/lang/String", "length", "()I"⟩ : MethodName) ∈ hpT := hpT_of 448 (by decide +kernel) (by decide +kernel)
theorem wd_458 : Cond.methodLink "TurfHeaps$Tape" 131 (⟨"java/lang/String", "charAt", "(I)C"⟩ : MethodName) ∈ hpT := hpT_of 458 (by decide +kernel) (by decide +kernel)
theorem wd_496 : Cond.methodLink "TurfHeaps$Tape" 67 (⟨"TurfHeaps$Tape", "expect", "(Z)V"⟩ : MethodName) ∈ hpT := hpT_of 496 (by decide +kernel) (by decide +kernel)
theorem wd_498 : Cond.instanceMethod (⟨"TurfHeaps$Tape", "expect", "(Z)V"⟩ : MethodName) ∈ hpT := hpT_of 498 (by decide +kernel) (by decide +kernel)
theorem wd_499 : Cond.code (⟨"TurfHeaps$Tape", "expect", "(Z)V"⟩ : MethodName) prog_9_method_8_code 2 (none : Option FieldType) ∈ hpT := hpT_of 499 (by decide +kernel) (by decide +kernel)
theorem wd_500 : Cond.methodLink "TurfHeaps$Tape" 63 (⟨"TurfHeaps$Tape", "fail", "(I)V"⟩ : MethodName) ∈ hpT := hpT_of 500 (by decide +kernel) (by decide +kernel)
theorem wd_502 : Cond.instanceMethod (⟨"TurfHeaps$Tape", "fail", "(I)V"⟩ : MethodName) ∈ hpT := hpT_of 502 (by decide +kernel) (by decide +kernel)
theorem wd_503 : Cond.code (⟨"TurfHeaps$Tape", "fail", "(I)V"⟩ : MethodName) prog_9_method_10_code 2 (none : Option FieldType) ∈ hpT := hpT_of 503 (by decide +kernel) (by decide +kernel)
theorem wd_505 : Cond.methodLink "TurfHeaps$Tape" 75 (⟨"TurfHeaps$Tape", "expectNumber", "(II)I"⟩ : MethodName) ∈ hpT := hpT_of 505 (by decide +kernel) (by decide +kernel)
theorem wd_507 : Cond.instanceMethod (⟨"TurfHeaps$Tape", "expectNumber", "(II)I"⟩ : MethodName) ∈ hpT := hpT_of 507 (by decide +kernel) (by decide +kernel)
theorem wd_508 : Cond.code (⟨"TurfHeaps$Tape", "expectNumber", "(II)I"⟩ : MethodName) prog_9_method_9_code 4 (some FieldType.int) ∈ hpT := hpT_of 508 (by decide +kernel) (by decide +kernel)
theorem wd_509 : Cond.methodLink "TurfHeaps$Tape" 109 (⟨"TurfHeaps$Tape", "number", "()I"⟩ : MethodName) ∈ hpT := hpT_of 509 (by decide +kernel) (by decide +kernel)
theorem wd_511 : Cond.instanceMethod (⟨"TurfHeaps$Tape", "number", "()I"⟩ : MethodName) ∈ hpT := hpT_of 511 (by decide +kernel) (by decide +kernel)
theorem wd_512 : Cond.code (⟨"TurfHeaps$Tape", "number", "()I"⟩ : MethodName) prog_9_method_13_code 3 (some FieldType.int) ∈ hpT := hpT_of 512 (by decide +kernel) (by decide +kernel)
theorem wd_513 : Cond.methodLink "TurfHeaps$Tape" 135 (⟨"java/lang/Math", "min", "(II)I"⟩ : MethodName) ∈ hpT := hpT_of 513 (by decide +kernel) (by decide +kernel)
theorem wd_514 : Cond.static (⟨"java/lang/Math", "min", "(II)I"⟩ : MethodName) ∈ hpT := hpT_of 514 (by decide +kernel) (by decide +kernel)
theorem wd_515 : Cond.code (⟨"java/lang/Math", "min", "(II)I"⟩ : MethodName) prog_13_method_69_code 2 (some FieldType.int) ∈ hpT := hpT_of 515 (by decide +kernel) (by decide +kernel)
theorem wd_519 : Cond.methodLink "TurfHeaps$Tape" 55 (⟨"TurfHeaps$Tape", "readHeap", "(LTurfHeaps$Moor;)V"⟩ : MethodName) ∈ hpT := hpT_of 519 (by decide +kernel) (by decide +kernel)
theorem wd_521 : Cond.instanceMethod (⟨"TurfHeaps$Tape", "readHeap", "(LTurfHeaps$Moor;)V"⟩ : MethodName) ∈ hpT := hpT_of 521 (by decide +kernel) (by decide +kernel)
theorem wd_522 : Cond.code (⟨"TurfHeaps$Tape", "readHeap", "(LTurfHeaps$Moor;)V"⟩ : MethodName) prog_9_method_6_code 2 (none : Option FieldType) ∈ hpT := hpT_of 522 (by decide +kernel) (by decide +kernel)
theorem wd_525 : Cond.methodLink "TurfHeaps$Tape" 60 (⟨"TurfHeaps$Tape", "readCart", "(LTurfHeaps$Moor;)V"⟩ : MethodName) ∈ hpT := hpT_of 525 (by decide +kernel) (by decide +kernel)
theorem wd_527 : Cond.instanceMethod (⟨"TurfHeaps$Tape", "readCart", "(LTurfHeaps$Moor;)V"⟩ : MethodName) ∈ hpT := hpT_of 527 (by decide +kernel) (by decide +kernel)
theorem wd_528 : Cond.code (⟨"TurfHeaps$Tape", "readCart", "(LTurfHeaps$Moor;)V"⟩ : MethodName) prog_9_method_7_code 2 (none : Option FieldType) ∈ hpT := hpT_of 528 (by decide +kernel) (by decide +kernel)
theorem wd_532 : Cond.instanceMethod (⟨"TurfHeaps$Moor", "become", "(LTurfHeaps$Moor;)V"⟩ : MethodName) ∈ hpT := hpT_of 532 (by decide +kernel) (by decide +kernel)
theorem wd_533 : Cond.code (⟨"TurfHeaps$Moor", "become", "(LTurfHeaps$Moor;)V"⟩ : MethodName) prog_3_method_3_code 2 (none : Option FieldType) ∈ hpT := hpT_of 533 (by decide +kernel) (by decide +kernel)
theorem wd_534 : Cond.methodLink "TurfHeaps$Moor" 49 (⟨"java/lang/System", "arraycopy", "(Ljava/lang/Object;ILjava/lang/Object;II)V"⟩ : MethodName) ∈ hpT := hpT_of 534 (by decide +kernel) (by decide +kernel)
theorem wd_535 : Cond.static (⟨"java/lang/System", "arraycopy", "(Ljava/lang/Object;ILjava/lang/Object;II)V"⟩ : MethodName) ∈ hpT := hpT_of 535 (by decide +kernel) (by decide +kernel)
theorem wd_536 : Cond.native (⟨"java/lang/System", "arraycopy", "(Ljava/lang/Object;ILjava/lang/Object;II)V"⟩ : MethodName) ∈ hpT := hpT_of 536 (by decide +kernel) (by decide +kernel)
theorem wd_537 : Cond.methodLink "TurfHeaps" 101 (⟨"TurfHeaps", "forget", "()V"⟩ : MethodName) ∈ hpT := hpT_of 537 (by decide +kernel) (by decide +kernel)
theorem wd_539 : Cond.instanceMethod (⟨"TurfHeaps", "forget", "()V"⟩ : MethodName) ∈ hpT := hpT_of 539 (by decide +kernel) (by decide +kernel)
theorem wd_540 : Cond.code (⟨"TurfHeaps", "forget", "()V"⟩ : MethodName) prog_1_method_84_code 1 (none : Option FieldType) ∈ hpT := hpT_of 540 (by decide +kernel) (by decide +kernel)
theorem wd_549 : Cond.methodLink "TurfHeaps" 113 (⟨"TurfHeaps", "isTold", "(I)Z"⟩ : MethodName) ∈ hpT := hpT_of 549 (by decide +kernel) (by decide +kernel)
theorem wd_551 : Cond.instanceMethod (⟨"TurfHeaps", "isTold", "(I)Z"⟩ : MethodName) ∈ hpT := hpT_of 551 (by decide +kernel) (by decide +kernel)
theorem wd_552 : Cond.code (⟨"TurfHeaps", "isTold", "(I)Z"⟩ : MethodName) prog_1_method_78_code 2 (some FieldType.boolean) ∈ hpT := hpT_of 552 (by decide +kernel) (by decide +kernel)
theorem wd_557 : Cond.methodLink "TurfHeaps" 120 (⟨"TurfHeaps", "isCart", "(I)Z"⟩ : MethodName) ∈ hpT := hpT_of 557 (by decide +kernel) (by decide +kernel)
theorem wd_559 : Cond.instanceMethod (⟨"TurfHeaps", "isCart", "(I)Z"⟩ : MethodName) ∈ hpT := hpT_of 559 (by decide +kernel) (by decide +kernel)
theorem wd_560 : Cond.code (⟨"TurfHeaps", "isCart", "(I)Z"⟩ : MethodName) prog_1_method_79_code 2 (some FieldType.boolean) ∈ hpT := hpT_of 560 (by decide +kernel) (by decide +kernel)
theorem wd_561 : Cond.methodLink "TurfHeaps" 123 (⟨"TurfHeaps", "isWhat", "(I)Z"⟩ : MethodName) ∈ hpT := hpT_of 561 (by decide +kernel) (by decide +kernel)
theorem wd_562 : Cond.static (⟨"TurfHeaps", "isWhat", "(I)Z"⟩ : MethodName) ∈ hpT := hpT_of 562 (by decide +kernel) (by decide +kernel)
theorem wd_563 : Cond.code (⟨"TurfHeaps", "isWhat", "(I)Z"⟩ : MethodName) prog_1_method_82_code 1 (some FieldType.boolean) ∈ hpT := hpT_of 563 (by decide +kernel) (by decide +kernel)
theorem wd_568 : Cond.methodLink "TurfHeaps" 132 (⟨"TurfHeaps", "isDay", "(I)Z"⟩ : MethodName) ∈ hpT := hpT_of 568 (by decide +kernel) (by decide +kernel)
theorem wd_570 : Cond.instanceMethod (⟨"TurfHeaps", "isDay", "(I)Z"⟩ : MethodName) ∈ hpT := hpT_of 570 (by decide +kernel) (by decide +kernel)
theorem wd_571 : Cond.code (⟨"TurfHeaps", "isDay", "(I)Z"⟩ : MethodName) prog_1_method_75_code 2 (some FieldType.boolean) ∈ hpT := hpT_of 571 (by decide +kernel) (by decide +kernel)
theorem wd_572 : Cond.methodLink "TurfHeaps" 177 (⟨"TurfHeaps", "noMoor", "()Z"⟩ : MethodName) ∈ hpT := hpT_of 572 (by decide +kernel) (by decide +kernel)
theorem wd_574 : Cond.instanceMethod (⟨"TurfHeaps", "noMoor", "()Z"⟩ : MethodName) ∈ hpT := hpT_of 574 (by decide +kernel) (by decide +kernel)
theorem wd_575 : Cond.code (⟨"TurfHeaps", "noMoor", "()Z"⟩ : MethodName) prog_1_method_74_code 1 (some FieldType.boolean) ∈ hpT := hpT_of 575 (by decide +kernel) (by decide +kernel)
theorem wd_576 : Cond.methodLink "TurfHeaps" 135 (⟨"TurfHeaps", "rowOfDay", "(I)LTurfHeaps$Row;"⟩ : MethodName) ∈ hpT := hpT_of 576 (by decide +kernel) (by decide +kernel)
theorem wd_578 : Cond.instanceMethod (⟨"TurfHeaps", "rowOfDay", "(I)LTurfHeaps$Row;"⟩ : MethodName) ∈ hpT := hpT_of 578 (by decide +kernel) (by decide +kernel)
theorem wd_579 : Cond.code (⟨"TurfHeaps", "rowOfDay", "(I)LTurfHeaps$Row;"⟩ : MethodName) prog_1_method_85_code 2 (Option.some (FieldType.object "TurfHeaps$Row")) ∈ hpT := hpT_of 579 (by decide +kernel) (by decide +kernel)
theorem wd_582 : Cond.instanceMethod (⟨"TurfHeaps$Season", "asTold", "(LTurfHeaps$Moor;)V"⟩ : MethodName) ∈ hpT := hpT_of 582 (by decide +kernel) (by decide +kernel)
theorem wd_583 : Cond.code (⟨"TurfHeaps$Season", "asTold", "(LTurfHeaps$Moor;)V"⟩ : MethodName) prog_6_method_2_code 2 (none : Option FieldType) ∈ hpT := hpT_of 583 (by decide +kernel) (by decide +kernel)
theorem wd_586 : Cond.instanceMethod (⟨"TurfHeaps$Season", "pass", "(LTurfHeaps$Moor;)V"⟩ : MethodName) ∈ hpT := hpT_of 586 (by decide +kernel) (by decide +kernel)
theorem wd_587 : Cond.code (⟨"TurfHeaps$Season", "pass", "(LTurfHeaps$Moor;)V"⟩ : MethodName) prog_6_method_4_code 3 (none : Option FieldType) ∈ hpT := hpT_of 587 (by decide +kernel) (by decide +kernel)
theorem wd_588 : Cond.methodLink "TurfHeaps$Season" 46 (⟨"TurfHeaps$Season", "begin", "(LTurfHeaps$Moor;)V"⟩ : MethodName) ∈ hpT := hpT_of 588 (by decide +kernel) (by decide +kernel)
theorem wd_590 : Cond.instanceMethod (⟨"TurfHeaps$Season", "begin", "(LTurfHeaps$Moor;)V"⟩ : MethodName) ∈ hpT := hpT_of 590 (by decide +kernel) (by decide +kernel)
theorem wd_591 : Cond.code (⟨"TurfHeaps$Season", "begin", "(LTurfHeaps$Moor;)V"⟩ : MethodName) prog_6_method_5_code 4 (none : Option FieldType) ∈ hpT := hpT_of 591 (by decide +kernel) (by decide +kernel)
theorem wd_594 : Cond.instanceMethod (⟨"TurfHeaps$Row", "clear", "()V"⟩ : MethodName) ∈ hpT := hpT_of 594 (by decide +kernel) (by decide +kernel)
theorem wd_595 : Cond.code (⟨"TurfHeaps$Row", "clear", "()V"⟩ : MethodName) prog_5_method_2_code 1 (none : Option FieldType) ∈ hpT := hpT_of 595 (by decide +kernel) (by decide +kernel)
theorem wd_598 : Cond.instanceMethod (⟨"TurfHeaps$Row", "lay", "(I)V"⟩ : MethodName) ∈ hpT := hpT_of 598 (by decide +kernel) (by decide +kernel)
theorem wd_599 : Cond.code (⟨"TurfHeaps$Row", "lay", "(I)V"⟩ : MethodName) prog_5_method_5_code 3 (none : Option FieldType) ∈ hpT := hpT_of 599 (by decide +kernel) (by decide +kernel)
theorem wd_600 : Cond.methodLink "TurfHeaps$Row" 28 (⟨"java/lang/System", "arraycopy", "(Ljava/lang/Object;ILjava/lang/Object;II)V"⟩ : MethodName) ∈ hpT := hpT_of 600 (by decide +kernel) (by decide +kernel)
theorem wd_601 : Cond.methodLink "TurfHeaps$Season" 71 (⟨"TurfHeaps$Season", "arrive", "(LTurfHeaps$Moor;I)V"⟩ : MethodName) ∈ hpT := hpT_of 601 (by decide +kernel) (by decide +kernel)
theorem wd_603 : Cond.instanceMethod (⟨"TurfHeaps$Season", "arrive", "(LTurfHeaps$Moor;I)V"⟩ : MethodName) ∈ hpT := hpT_of 603 (by decide +kernel) (by decide +kernel)
theorem wd_604 : Cond.code (⟨"TurfHeaps$Season", "arrive", "(LTurfHeaps$Moor;I)V"⟩ : MethodName) prog_6_method_7_code 6 (none : Option FieldType) ∈ hpT := hpT_of 604 (by decide +kernel) (by decide +kernel)
theorem wd_605 : Cond.methodLink "TurfHeaps$Season" 81 (⟨"TurfHeaps$Season", "at", "(I)LTurfHeaps$Row;"⟩ : MethodName) ∈ hpT := hpT_of 605 (by decide +kernel) (by decide +kernel)
theorem wd_607 : Cond.instanceMethod (⟨"TurfHeaps$Season", "at", "(I)LTurfHeaps$Row;"⟩ : MethodName) ∈ hpT := hpT_of 607 (by decide +kernel) (by decide +kernel)
theorem wd_608 : Cond.code (⟨"TurfHeaps$Season", "at", "(I)LTurfHeaps$Row;"⟩ : MethodName) prog_6_method_3_code 2 (Option.some (FieldType.object "TurfHeaps$Row")) ∈ hpT := hpT_of 608 (by decide +kernel) (by decide +kernel)
theorem wd_611 : Cond.instanceMethod (⟨"TurfHeaps$Row", "dropHighest", "()I"⟩ : MethodName) ∈ hpT := hpT_of 611 (by decide +kernel) (by decide +kernel)
theorem wd_612 : Cond.code (⟨"TurfHeaps$Row", "dropHighest", "()I"⟩ : MethodName) prog_5_method_6_code 2 (some FieldType.int) ∈ hpT := hpT_of 612 (by decide +kernel) (by decide +kernel)
theorem wd_613 : Cond.methodLink "TurfHeaps$Season" 53 (⟨"TurfHeaps$Season", "next", "(LTurfHeaps$Moor;I)V"⟩ : MethodName) ∈ hpT := hpT_of 613 (by decide +kernel) (by decide +kernel)
theorem wd_615 : Cond.instanceMethod (⟨"TurfHeaps$Season", "next", "(LTurfHeaps$Moor;I)V"⟩ : MethodName) ∈ hpT := hpT_of 615 (by decide +kernel) (by decide +kernel)
theorem wd_616 : Cond.code (⟨"TurfHeaps$Season", "next", "(LTurfHeaps$Moor;I)V"⟩ : MethodName) prog_6_method_6_code 4 (none : Option FieldType) ∈ hpT := hpT_of 616 (by decide +kernel) (by decide +kernel)
theorem wd_619 : Cond.instanceMethod (⟨"TurfHeaps$Row", "become", "(LTurfHeaps$Row;)V"⟩ : MethodName) ∈ hpT := hpT_of 619 (by decide +kernel) (by decide +kernel)
theorem wd_620 : Cond.code (⟨"TurfHeaps$Row", "become", "(LTurfHeaps$Row;)V"⟩ : MethodName) prog_5_method_3_code 2 (none : Option FieldType) ∈ hpT := hpT_of 620 (by decide +kernel) (by decide +kernel)
theorem wd_623 : Cond.instanceMethod (⟨"TurfHeaps$Row", "step", "(I)V"⟩ : MethodName) ∈ hpT := hpT_of 623 (by decide +kernel) (by decide +kernel)
theorem wd_624 : Cond.code (⟨"TurfHeaps$Row", "step", "(I)V"⟩ : MethodName) prog_5_method_7_code 3 (none : Option FieldType) ∈ hpT := hpT_of 624 (by decide +kernel) (by decide +kernel)
theorem wd_625 : Cond.methodLink "TurfHeaps$Row" 34 (⟨"TurfHeaps$Row", "dropHighest", "()I"⟩ : MethodName) ∈ hpT := hpT_of 625 (by decide +kernel) (by decide +kernel)
theorem wd_626 : Cond.methodLink "TurfHeaps$Row" 38 (⟨"TurfHeaps$Row", "lower", "(I)I"⟩ : MethodName) ∈ hpT := hpT_of 626 (by decide +kernel) (by decide +kernel)
theorem wd_628 : Cond.instanceMethod (⟨"TurfHeaps$Row", "lower", "(I)I"⟩ : MethodName) ∈ hpT := hpT_of 628 (by decide +kernel) (by decide +kernel)
theorem wd_629 : Cond.code (⟨"TurfHeaps$Row", "lower", "(I)I"⟩ : MethodName) prog_5_method_8_code 8 (some FieldType.int) ∈ hpT := hpT_of 629 (by decide +kernel) (by decide +kernel)
theorem wd_630 : Cond.methodLink "TurfHeaps$Row" 46 (⟨"TurfHeaps$Row", "offEach", "(II)I"⟩ : MethodName) ∈ hpT := hpT_of 630 (by decide +kernel) (by decide +kernel)
theorem wd_631 : Cond.static (⟨"TurfHeaps$Row", "offEach", "(II)I"⟩ : MethodName) ∈ hpT := hpT_of 631 (by decide +kernel) (by decide +kernel)
theorem wd_632 : Cond.code (⟨"TurfHeaps$Row", "offEach", "(II)I"⟩ : MethodName) prog_5_method_9_code 2 (some FieldType.int) ∈ hpT := hpT_of 632 (by decide +kernel) (by decide +kernel)
theorem wd_633 : Cond.methodLink "TurfHeaps$Row" 42 (⟨"TurfHeaps$Row", "lay", "(I)V"⟩ : MethodName) ∈ hpT := hpT_of 633 (by decide +kernel) (by decide +kernel)
theorem wd_641 : Cond.instanceMethod (⟨"TurfHeaps$Row", "heapAt", "(I)I"⟩ : MethodName) ∈ hpT := hpT_of 641 (by decide +kernel) (by decide +kernel)
theorem wd_642 : Cond.code (⟨"TurfHeaps$Row", "heapAt", "(I)I"⟩ : MethodName) prog_5_method_15_code 4 (some FieldType.int) ∈ hpT := hpT_of 642 (by decide +kernel) (by decide +kernel)
theorem wd_653 : Cond.instanceMethod (⟨"TurfHeaps$Row", "heapsOf", "(I)I"⟩ : MethodName) ∈ hpT := hpT_of 653 (by decide +kernel) (by decide +kernel)
theorem wd_654 : Cond.code (⟨"TurfHeaps$Row", "heapsOf", "(I)I"⟩ : MethodName) prog_5_method_16_code 3 (some FieldType.int) ∈ hpT := hpT_of 654 (by decide +kernel) (by decide +kernel)
theorem wd_665 : Cond.instanceMethod (⟨"TurfHeaps$Row", "highest", "()I"⟩ : MethodName) ∈ hpT := hpT_of 665 (by decide +kernel) (by decide +kernel)
theorem wd_666 : Cond.code (⟨"TurfHeaps$Row", "highest", "()I"⟩ : MethodName) prog_5_method_13_code 1 (some FieldType.int) ∈ hpT := hpT_of 666 (by decide +kernel) (by decide +kernel)
theorem wd_669 : Cond.instanceMethod (⟨"TurfHeaps$Row", "lowest", "()I"⟩ : MethodName) ∈ hpT := hpT_of 669 (by decide +kernel) (by decide +kernel)
theorem wd_670 : Cond.code (⟨"TurfHeaps$Row", "lowest", "()I"⟩ : MethodName) prog_5_method_14_code 1 (some FieldType.int) ∈ hpT := hpT_of 670 (by decide +kernel) (by decide +kernel)
theorem wd_677 : Cond.instanceMethod (⟨"TurfHeaps$Row", "oddHeaps", "()I"⟩ : MethodName) ∈ hpT := hpT_of 677 (by decide +kernel) (by decide +kernel)
theorem wd_678 : Cond.code (⟨"TurfHeaps$Row", "oddHeaps", "()I"⟩ : MethodName) prog_5_method_18_code 3 (some FieldType.int) ∈ hpT := hpT_of 678 (by decide +kernel) (by decide +kernel)
theorem wd_683 : Cond.methodLink "TurfHeaps" 165 (⟨"TurfHeaps", "isDayAheadOfLast", "(I)Z"⟩ : MethodName) ∈ hpT := hpT_of 683 (by decide +kernel) (by decide +kernel)
theorem wd_685 : Cond.instanceMethod (⟨"TurfHeaps", "isDayAheadOfLast", "(I)Z"⟩ : MethodName) ∈ hpT := hpT_of 685 (by decide +kernel) (by decide +kernel)
theorem wd_686 : Cond.code (⟨"TurfHeaps", "isDayAheadOfLast", "(I)Z"⟩ : MethodName) prog_1_method_76_code 2 (some FieldType.boolean) ∈ hpT := hpT_of 686 (by decide +kernel) (by decide +kernel)
theorem wd_689 : Cond.instanceMethod (⟨"TurfHeaps$Row", "takenBy", "(I)I"⟩ : MethodName) ∈ hpT := hpT_of 689 (by decide +kernel) (by decide +kernel)
theorem wd_690 : Cond.code (⟨"TurfHeaps$Row", "takenBy", "(I)I"⟩ : MethodName) prog_5_method_10_code 4 (some FieldType.int) ∈ hpT := hpT_of 690 (by decide +kernel) (by decide +kernel)
theorem wd_691 : Cond.methodLink "TurfHeaps$Row" 50 (⟨"TurfHeaps$Row", "touched", "(II)I"⟩ : MethodName) ∈ hpT := hpT_of 691 (by decide +kernel) (by decide +kernel)
theorem wd_693 : Cond.instanceMethod (⟨"TurfHeaps$Row", "touched", "(II)I"⟩ : MethodName) ∈ hpT := hpT_of 693 (by decide +kernel) (by decide +kernel)
theorem wd_694 : Cond.code (⟨"TurfHeaps$Row", "touched", "(II)I"⟩ : MethodName) prog_5_method_12_code 3 (some FieldType.int) ∈ hpT := hpT_of 694 (by decide +kernel) (by decide +kernel)
theorem wd_701 : Cond.instanceMethod (⟨"TurfHeaps$Row", "goneBy", "(I)I"⟩ : MethodName) ∈ hpT := hpT_of 701 (by decide +kernel) (by decide +kernel)
theorem wd_702 : Cond.code (⟨"TurfHeaps$Row", "goneBy", "(I)I"⟩ : MethodName) prog_5_method_11_code 4 (some FieldType.int) ∈ hpT := hpT_of 702 (by decide +kernel) (by decide +kernel)
theorem wd_707 : Cond.methodLink "TurfHeaps" 184 (⟨"java/lang/Math", "max", "(II)I"⟩ : MethodName) ∈ hpT := hpT_of 707 (by decide +kernel) (by decide +kernel)
theorem wd_708 : Cond.static (⟨"java/lang/Math", "max", "(II)I"⟩ : MethodName) ∈ hpT := hpT_of 708 (by decide +kernel) (by decide +kernel)
theorem wd_709 : Cond.code (⟨"java/lang/Math", "max", "(II)I"⟩ : MethodName) prog_13_method_65_code 2 (some FieldType.int) ∈ hpT := hpT_of 709 (by decide +kernel) (by decide +kernel)
theorem wd_718 : Cond.methodLink "TurfHeaps" 190 (⟨"TurfHeaps", "firstLike", "(I)I"⟩ : MethodName) ∈ hpT := hpT_of 718 (by decide +kernel) (by decide +kernel)
theorem wd_720 : Cond.instanceMethod (⟨"TurfHeaps", "firstLike", "(I)I"⟩ : MethodName) ∈ hpT := hpT_of 720 (by decide +kernel) (by decide +kernel)
theorem wd_721 : Cond.code (⟨"TurfHeaps", "firstLike", "(I)I"⟩ : MethodName) prog_1_method_87_code 3 (some FieldType.int) ∈ hpT := hpT_of 721 (by decide +kernel) (by decide +kernel)
theorem wd_724 : Cond.instanceMethod (⟨"TurfHeaps$Row", "alike", "(LTurfHeaps$Row;)Z"⟩ : MethodName) ∈ hpT := hpT_of 724 (by decide +kernel) (by decide +kernel)
theorem wd_725 : Cond.code (⟨"TurfHeaps$Row", "alike", "(LTurfHeaps$Row;)Z"⟩ : MethodName) prog_5_method_4_code 3 (some FieldType.boolean) ∈ hpT := hpT_of 725 (by decide +kernel) (by decide +kernel)
theorem wd_740 : Cond.instanceMethod (⟨"TurfHeaps$Row", "isStair", "()Z"⟩ : MethodName) ∈ hpT := hpT_of 740 (by decide +kernel) (by decide +kernel)
theorem wd_741 : Cond.code (⟨"TurfHeaps$Row", "isStair", "()Z"⟩ : MethodName) prog_5_method_19_code 1 (some FieldType.boolean) ∈ hpT := hpT_of 741 (by decide +kernel) (by decide +kernel)
theorem wd_742 : Cond.methodLink "TurfHeaps" 200 (⟨"TurfHeaps", "asNumber", "(Z)I"⟩ : MethodName) ∈ hpT := hpT_of 742 (by decide +kernel) (by decide +kernel)
theorem wd_743 : Cond.static (⟨"TurfHeaps", "asNumber", "(Z)I"⟩ : MethodName) ∈ hpT := hpT_of 743 (by decide +kernel) (by decide +kernel)
theorem wd_744 : Cond.code (⟨"TurfHeaps", "asNumber", "(Z)I"⟩ : MethodName) prog_1_method_83_code 1 (some FieldType.int) ∈ hpT := hpT_of 744 (by decide +kernel) (by decide +kernel)
theorem wd_755 : Cond.instanceMethod (⟨"TurfHeaps$Row", "squareSide", "()I"⟩ : MethodName) ∈ hpT := hpT_of 755 (by decide +kernel) (by decide +kernel)
theorem wd_756 : Cond.code (⟨"TurfHeaps$Row", "squareSide", "()I"⟩ : MethodName) prog_5_method_20_code 2 (some FieldType.int) ∈ hpT := hpT_of 756 (by decide +kernel) (by decide +kernel)
theorem wd_757 : Cond.methodLink "TurfHeaps$Row" 53 (⟨"TurfHeaps$Row", "heapsFrom", "(I)I"⟩ : MethodName) ∈ hpT := hpT_of 757 (by decide +kernel) (by decide +kernel)
theorem wd_759 : Cond.instanceMethod (⟨"TurfHeaps$Row", "heapsFrom", "(I)I"⟩ : MethodName) ∈ hpT := hpT_of 759 (by decide +kernel) (by decide +kernel)
theorem wd_760 : Cond.code (⟨"TurfHeaps$Row", "heapsFrom", "(I)I"⟩ : MethodName) prog_5_method_17_code 4 (some FieldType.int) ∈ hpT := hpT_of 760 (by decide +kernel) (by decide +kernel)
theorem wd_772 : Cond.instanceMethod (⟨"TurfHeaps$Row", "sameTurnedOver", "()Z"⟩ : MethodName) ∈ hpT := hpT_of 772 (by decide +kernel) (by decide +kernel)
theorem wd_773 : Cond.code (⟨"TurfHeaps$Row", "sameTurnedOver", "()Z"⟩ : MethodName) prog_5_method_21_code 2 (some FieldType.boolean) ∈ hpT := hpT_of 773 (by decide +kernel) (by decide +kernel)
theorem wd_774 : Cond.methodLink "TurfHeaps$Row" 56 (⟨"TurfHeaps$Row", "highest", "()I"⟩ : MethodName) ∈ hpT := hpT_of 774 (by decide +kernel) (by decide +kernel)
theorem wd_775 : Cond.methodLink "TurfHeaps$Row" 59 (⟨"TurfHeaps$Row", "heapAt", "(I)I"⟩ : MethodName) ∈ hpT := hpT_of 775 (by decide +kernel) (by decide +kernel)
theorem wd_782 : Cond.instanceMethod (⟨"TurfHeaps$Row", "standsTo", "(LTurfHeaps$Row;)I"⟩ : MethodName) ∈ hpT := hpT_of 782 (by decide +kernel) (by decide +kernel)
theorem wd_783 : Cond.code (⟨"TurfHeaps$Row", "standsTo", "(LTurfHeaps$Row;)I"⟩ : MethodName) prog_5_method_22_code 7 (some FieldType.int) ∈ hpT := hpT_of 783 (by decide +kernel) (by decide +kernel)
theorem wd_784 : Cond.methodLink "TurfHeaps$Row" 62 (⟨"java/lang/Math", "max", "(II)I"⟩ : MethodName) ∈ hpT := hpT_of 784 (by decide +kernel) (by decide +kernel)
theorem wd_789 : Cond.methodLink "TurfHeaps" 217 (⟨"TurfHeaps", "roundOf", "(I)LTurfHeaps$Round;"⟩ : MethodName) ∈ hpT := hpT_of 789 (by decide +kernel) (by decide +kernel)
theorem wd_791 : Cond.instanceMethod (⟨"TurfHeaps", "roundOf", "(I)LTurfHeaps$Round;"⟩ : MethodName) ∈ hpT := hpT_of 791 (by decide +kernel) (by decide +kernel)
theorem wd_792 : Cond.code (⟨"TurfHeaps", "roundOf", "(I)LTurfHeaps$Round;"⟩ : MethodName) prog_1_method_88_code 2 (Option.some (FieldType.object "TurfHeaps$Round")) ∈ hpT := hpT_of 792 (by decide +kernel) (by decide +kernel)
theorem wd_795 : Cond.instanceMethod (⟨"TurfHeaps$Round", "follow", "(LTurfHeaps$Row;I)V"⟩ : MethodName) ∈ hpT := hpT_of 795 (by decide +kernel) (by decide +kernel)
theorem wd_796 : Cond.code (⟨"TurfHeaps$Round", "follow", "(LTurfHeaps$Row;I)V"⟩ : MethodName) prog_4_method_2_code 4 (none : Option FieldType) ∈ hpT := hpT_of 796 (by decide +kernel) (by decide +kernel)
theorem wd_797 : Cond.methodLink "TurfHeaps$Round" 21 (⟨"TurfHeaps$Round", "turnFrom", "(LTurfHeaps$Row;I)I"⟩ : MethodName) ∈ hpT := hpT_of 797 (by decide +kernel) (by decide +kernel)
theorem wd_799 : Cond.instanceMethod (⟨"TurfHeaps$Round", "turnFrom", "(LTurfHeaps$Row;I)I"⟩ : MethodName) ∈ hpT := hpT_of 799 (by decide +kernel) (by decide +kernel)
theorem wd_800 : Cond.code (⟨"TurfHeaps$Round", "turnFrom", "(LTurfHeaps$Row;I)I"⟩ : MethodName) prog_4_method_3_code 6 (some FieldType.int) ∈ hpT := hpT_of 800 (by decide +kernel) (by decide +kernel)
theorem wd_804 : Cond.methodLink "TurfHeaps$Round" 29 (⟨"TurfHeaps$Round", "stepsAheadOfRing", "(LTurfHeaps$Row;I)I"⟩ : MethodName) ∈ hpT := hpT_of 804 (by decide +kernel) (by decide +kernel)
theorem wd_806 : Cond.instanceMethod (⟨"TurfHeaps$Round", "stepsAheadOfRing", "(LTurfHeaps$Row;I)I"⟩ : MethodName) ∈ hpT := hpT_of 806 (by decide +kernel) (by decide +kernel)
theorem wd_807 : Cond.code (⟨"TurfHeaps$Round", "stepsAheadOfRing", "(LTurfHeaps$Row;I)I"⟩ : MethodName) prog_4_method_4_code 4 (some FieldType.int) ∈ hpT := hpT_of 807 (by decide +kernel) (by decide +kernel)
theorem wd_808 : Cond.methodLink "TurfHeaps$Round" 50 (⟨"TurfHeaps$Round", "lookForStair", "(I)V"⟩ : MethodName) ∈ hpT := hpT_of 808 (by decide +kernel) (by decide +kernel)
theorem wd_810 : Cond.instanceMethod (⟨"TurfHeaps$Round", "lookForStair", "(I)V"⟩ : MethodName) ∈ hpT := hpT_of 810 (by decide +kernel) (by decide +kernel)
theorem wd_811 : Cond.code (⟨"TurfHeaps$Round", "lookForStair", "(I)V"⟩ : MethodName) prog_4_method_5_code 2 (none : Option FieldType) ∈ hpT := hpT_of 811 (by decide +kernel) (by decide +kernel)
theorem wd_813 : Cond.methodLink "TurfHeaps$Round" 44 (⟨"java/lang/Math", "max", "(II)I"⟩ : MethodName) ∈ hpT := hpT_of 813 (by decide +kernel) (by decide +kernel)
theorem wd_836 : Cond.methodLink "TurfHeaps" 239 (⟨"TurfHeaps", "isOfAll", "(I)Z"⟩ : MethodName) ∈ hpT := hpT_of 836 (by decide +kernel) (by decide +kernel)
theorem wd_838 : Cond.instanceMethod (⟨"TurfHeaps", "isOfAll", "(I)Z"⟩ : MethodName) ∈ hpT := hpT_of 838 (by decide +kernel) (by decide +kernel)
theorem wd_839 : Cond.code (⟨"TurfHeaps", "isOfAll", "(I)Z"⟩ : MethodName) prog_1_method_80_code 2 (some FieldType.boolean) ∈ hpT := hpT_of 839 (by decide +kernel) (by decide +kernel)
theorem wd_840 : Cond.methodLink "TurfHeaps" 242 (⟨"TurfHeaps", "everyOf", "(I)LTurfHeaps$Every;"⟩ : MethodName) ∈ hpT := hpT_of 840 (by decide +kernel) (by decide +kernel)
theorem wd_842 : Cond.instanceMethod (⟨"TurfHeaps", "everyOf", "(I)LTurfHeaps$Every;"⟩ : MethodName) ∈ hpT := hpT_of 842 (by decide +kernel) (by decide +kernel)
theorem wd_843 : Cond.code (⟨"TurfHeaps", "everyOf", "(I)LTurfHeaps$Every;"⟩ : MethodName) prog_1_method_89_code 2 (Option.some (FieldType.object "TurfHeaps$Every")) ∈ hpT := hpT_of 843 (by decide +kernel) (by decide +kernel)
theorem wd_846 : Cond.instanceMethod (⟨"TurfHeaps$Every", "workOut", "(II)V"⟩ : MethodName) ∈ hpT := hpT_of 846 (by decide +kernel) (by decide +kernel)
theorem wd_847 : Cond.code (⟨"TurfHeaps$Every", "workOut", "(II)V"⟩ : MethodName) prog_2_method_2_code 4 (none : Option FieldType) ∈ hpT := hpT_of 847 (by decide +kernel) (by decide +kernel)
theorem wd_848 : Cond.methodLink "TurfHeaps$Every" 48 (⟨"TurfHeaps$Every", "listRows", "(I)V"⟩ : MethodName) ∈ hpT := hpT_of 848 (by decide +kernel) (by decide +kernel)
theorem wd_850 : Cond.instanceMethod (⟨"TurfHeaps$Every", "listRows", "(I)V"⟩ : MethodName) ∈ hpT := hpT_of 850 (by decide +kernel) (by decide +kernel)
theorem wd_851 : Cond.code (⟨"TurfHeaps$Every", "listRows", "(I)V"⟩ : MethodName) prog_2_method_3_code 3 (none : Option FieldType) ∈ hpT := hpT_of 851 (by decide +kernel) (by decide +kernel)
theorem wd_852 : Cond.methodLink "TurfHeaps$Every" 71 (⟨"TurfHeaps$Every", "codeOfParts", "(I)J"⟩ : MethodName) ∈ hpT := hpT_of 852 (by decide +kernel) (by decide +kernel)
theorem wd_854 : Cond.instanceMethod (⟨"TurfHeaps$Every", "codeOfParts", "(I)J"⟩ : MethodName) ∈ hpT := hpT_of 854 (by decide +kernel) (by decide +kernel)
theorem wd_855 : Cond.code (⟨"TurfHeaps$Every", "codeOfParts", "(I)J"⟩ : MethodName) prog_2_method_5_code 5 (some FieldType.long) ∈ hpT := hpT_of 855 (by decide +kernel) (by decide +kernel)
theorem wd_856 : Cond.methodLink "TurfHeaps$Every" 75 (⟨"TurfHeaps$Every", "nextParts", "(I)I"⟩ : MethodName) ∈ hpT := hpT_of 856 (by decide +kernel) (by decide +kernel)
theorem wd_858 : Cond.instanceMethod (⟨"TurfHeaps$Every", "nextParts", "(I)I"⟩ : MethodName) ∈ hpT := hpT_of 858 (by decide +kernel) (by decide +kernel)
theorem wd_859 : Cond.code (⟨"TurfHeaps$Every", "nextParts", "(I)I"⟩ : MethodName) prog_2_method_4_code 6 (some FieldType.int) ∈ hpT := hpT_of 859 (by decide +kernel) (by decide +kernel)
theorem wd_860 : Cond.methodLink "TurfHeaps$Every" 79 (⟨"java/lang/Math", "min", "(II)I"⟩ : MethodName) ∈ hpT := hpT_of 860 (by decide +kernel) (by decide +kernel)
theorem wd_861 : Cond.methodLink "TurfHeaps$Every" 52 (⟨"TurfHeaps$Every", "linkRows", "(I)V"⟩ : MethodName) ∈ hpT := hpT_of 861 (by decide +kernel) (by decide +kernel)
theorem wd_863 : Cond.instanceMethod (⟨"TurfHeaps$Every", "linkRows", "(I)V"⟩ : MethodName) ∈ hpT := hpT_of 863 (by decide +kernel) (by decide +kernel)
theorem wd_864 : Cond.code (⟨"TurfHeaps$Every", "linkRows", "(I)V"⟩ : MethodName) prog_2_method_10_code 3 (none : Option FieldType) ∈ hpT := hpT_of 864 (by decide +kernel) (by decide +kernel)
theorem wd_865 : Cond.methodLink "TurfHeaps$Every" 106 (⟨"TurfHeaps$Every", "fill", "(J)V"⟩ : MethodName) ∈ hpT := hpT_of 865 (by decide +kernel) (by decide +kernel)
theorem wd_867 : Cond.instanceMethod (⟨"TurfHeaps$Every", "fill", "(J)V"⟩ : MethodName) ∈ hpT := hpT_of 867 (by decide +kernel) (by decide +kernel)
theorem wd_868 : Cond.code (⟨"TurfHeaps$Every", "fill", "(J)V"⟩ : MethodName) prog_2_method_8_code 4 (none : Option FieldType) ∈ hpT := hpT_of 868 (by decide +kernel) (by decide +kernel)
theorem wd_870 : Cond.methodLink "TurfHeaps$Every" 99 (⟨"TurfHeaps$Every", "heapOfCode", "(JI)I"⟩ : MethodName) ∈ hpT := hpT_of 870 (by decide +kernel) (by decide +kernel)
theorem wd_871 : Cond.static (⟨"TurfHeaps$Every", "heapOfCode", "(JI)I"⟩ : MethodName) ∈ hpT := hpT_of 871 (by decide +kernel) (by decide +kernel)
theorem wd_872 : Cond.code (⟨"TurfHeaps$Every", "heapOfCode", "(JI)I"⟩ : MethodName) prog_2_method_6_code 3 (some FieldType.int) ∈ hpT := hpT_of 872 (by decide +kernel) (by decide +kernel)
theorem wd_873 : Cond.constantLong "TurfHeaps$Every" 85 (15 : Int64) ∈ hpT := hpT_of 873 (by decide +kernel) (by decide +kernel)
theorem wd_876 : Cond.methodLink "TurfHeaps$Every" 113 (⟨"TurfHeaps$Every", "codeOf", "(LTurfHeaps$Row;)J"⟩ : MethodName) ∈ hpT := hpT_of 876 (by decide +kernel) (by decide +kernel)
theorem wd_877 : Cond.static (⟨"TurfHeaps$Every", "codeOf", "(LTurfHeaps$Row;)J"⟩ : MethodName) ∈ hpT := hpT_of 877 (by decide +kernel) (by decide +kernel)
theorem wd_878 : Cond.code (⟨"TurfHeaps$Every", "codeOf", "(LTurfHeaps$Row;)J"⟩ : MethodName) prog_2_method_7_code 6 (some FieldType.long) ∈ hpT := hpT_of 878 (by decide +kernel) (by decide +kernel)
theorem wd_879 : Cond.methodLink "TurfHeaps$Every" 117 (⟨"TurfHeaps$Every", "indexOf", "(J)I"⟩ : MethodName) ∈ hpT := hpT_of 879 (by decide +kernel) (by decide +kernel)
theorem wd_881 : Cond.instanceMethod (⟨"TurfHeaps$Every", "indexOf", "(J)I"⟩ : MethodName) ∈ hpT := hpT_of 881 (by decide +kernel) (by decide +kernel)
theorem wd_882 : Cond.code (⟨"TurfHeaps$Every", "indexOf", "(J)I"⟩ : MethodName) prog_2_method_9_code 7 (some FieldType.int) ∈ hpT := hpT_of 882 (by decide +kernel) (by decide +kernel)
theorem wd_883 : Cond.methodLink "TurfHeaps$Every" 55 (⟨"TurfHeaps$Every", "peelTails", "()I"⟩ : MethodName) ∈ hpT := hpT_of 883 (by decide +kernel) (by decide +kernel)
theorem wd_885 : Cond.instanceMethod (⟨"TurfHeaps$Every", "peelTails", "()I"⟩ : MethodName) ∈ hpT := hpT_of 885 (by decide +kernel) (by decide +kernel)
theorem wd_886 : Cond.code (⟨"TurfHeaps$Every", "peelTails", "()I"⟩ : MethodName) prog_2_method_11_code 4 (some FieldType.int) ∈ hpT := hpT_of 886 (by decide +kernel) (by decide +kernel)
theorem wd_887 : Cond.methodLink "TurfHeaps$Every" 65 (⟨"TurfHeaps$Every", "measureTails", "(I)V"⟩ : MethodName) ∈ hpT := hpT_of 887 (by decide +kernel) (by decide +kernel)
theorem wd_889 : Cond.instanceMethod (⟨"TurfHeaps$Every", "measureTails", "(I)V"⟩ : MethodName) ∈ hpT := hpT_of 889 (by decide +kernel) (by decide +kernel)
theorem wd_890 : Cond.code (⟨"TurfHeaps$Every", "measureTails", "(I)V"⟩ : MethodName) prog_2_method_12_code 4 (none : Option FieldType) ∈ hpT := hpT_of 890 (by decide +kernel) (by decide +kernel)
theorem wd_891 : Cond.methodLink "TurfHeaps$Every" 127 (⟨"java/lang/Math", "max", "(II)I"⟩ : MethodName) ∈ hpT := hpT_of 891 (by decide +kernel) (by decide +kernel)
theorem wd_892 : Cond.methodLink "TurfHeaps$Every" 68 (⟨"TurfHeaps$Every", "countRings", "()V"⟩ : MethodName) ∈ hpT := hpT_of 892 (by decide +kernel) (by decide +kernel)
theorem wd_894 : Cond.instanceMethod (⟨"TurfHeaps$Every", "countRings", "()V"⟩ : MethodName) ∈ hpT := hpT_of 894 (by decide +kernel) (by decide +kernel)
theorem wd_895 : Cond.code (⟨"TurfHeaps$Every", "countRings", "()V"⟩ : MethodName) prog_2_method_13_code 4 (none : Option FieldType) ∈ hpT := hpT_of 895 (by decide +kernel) (by decide +kernel)
theorem wd_916 : Cond.methodLink "TurfHeaps" 259 (⟨"TurfHeaps", "smallRowFault", "(I)I"⟩ : MethodName) ∈ hpT := hpT_of 916 (by decide +kernel) (by decide +kernel)
theorem wd_918 : Cond.instanceMethod (⟨"TurfHeaps", "smallRowFault", "(I)I"⟩ : MethodName) ∈ hpT := hpT_of 918 (by decide +kernel) (by decide +kernel)
theorem wd_919 : Cond.code (⟨"TurfHeaps", "smallRowFault", "(I)I"⟩ : MethodName) prog_1_method_111_code 2 (some FieldType.int) ∈ hpT := hpT_of 919 (by decide +kernel) (by decide +kernel)
theorem wd_920 : Cond.methodLink "TurfHeaps" 382 (⟨"TurfHeaps", "isSlot", "(I)Z"⟩ : MethodName) ∈ hpT := hpT_of 920 (by decide +kernel) (by decide +kernel)
theorem wd_921 : Cond.static (⟨"TurfHeaps", "isSlot", "(I)Z"⟩ : MethodName) ∈ hpT := hpT_of 921 (by decide +kernel) (by decide +kernel)
theorem wd_922 : Cond.code (⟨"TurfHeaps", "isSlot", "(I)Z"⟩ : MethodName) prog_1_method_81_code 1 (some FieldType.boolean) ∈ hpT := hpT_of 922 (by decide +kernel) (by decide +kernel)
theorem wd_925 : Cond.instanceMethod (⟨"TurfHeaps$Slot", "fillSmall", "(LTurfHeaps$Row;)Z"⟩ : MethodName) ∈ hpT := hpT_of 925 (by decide +kernel) (by decide +kernel)
theorem wd_926 : Cond.code (⟨"TurfHeaps$Slot", "fillSmall", "(LTurfHeaps$Row;)Z"⟩ : MethodName) prog_8_method_4_code 3 (some FieldType.boolean) ∈ hpT := hpT_of 926 (by decide +kernel) (by decide +kernel)
theorem wd_931 : Cond.instanceMethod (⟨"TurfHeaps$Every", "comersTo", "(LTurfHeaps$Row;)I"⟩ : MethodName) ∈ hpT := hpT_of 931 (by decide +kernel) (by decide +kernel)
theorem wd_932 : Cond.code (⟨"TurfHeaps$Every", "comersTo", "(LTurfHeaps$Row;)I"⟩ : MethodName) prog_2_method_14_code 2 (some FieldType.int) ∈ hpT := hpT_of 932 (by decide +kernel) (by decide +kernel)
theorem wd_939 : Cond.instanceMethod (⟨"TurfHeaps$Every", "heapOfFirstComer", "(LTurfHeaps$Row;I)I"⟩ : MethodName) ∈ hpT := hpT_of 939 (by decide +kernel) (by decide +kernel)
theorem wd_940 : Cond.code (⟨"TurfHeaps$Every", "heapOfFirstComer", "(LTurfHeaps$Row;I)I"⟩ : MethodName) prog_2_method_16_code 6 (some FieldType.int) ∈ hpT := hpT_of 940 (by decide +kernel) (by decide +kernel)
theorem wd_947 : Cond.instanceMethod (⟨"TurfHeaps$Every", "tailOf", "(LTurfHeaps$Row;)I"⟩ : MethodName) ∈ hpT := hpT_of 947 (by decide +kernel) (by decide +kernel)
theorem wd_948 : Cond.code (⟨"TurfHeaps$Every", "tailOf", "(LTurfHeaps$Row;)I"⟩ : MethodName) prog_2_method_15_code 2 (some FieldType.int) ∈ hpT := hpT_of 948 (by decide +kernel) (by decide +kernel)
theorem wd_953 : Cond.methodLink "TurfHeaps" 272 (⟨"TurfHeaps", "heapsAtLast", "()I"⟩ : MethodName) ∈ hpT := hpT_of 953 (by decide +kernel) (by decide +kernel)
theorem wd_955 : Cond.instanceMethod (⟨"TurfHeaps", "heapsAtLast", "()I"⟩ : MethodName) ∈ hpT := hpT_of 955 (by decide +kernel) (by decide +kernel)
theorem wd_956 : Cond.code (⟨"TurfHeaps", "heapsAtLast", "()I"⟩ : MethodName) prog_1_method_86_code 1 (some FieldType.int) ∈ hpT := hpT_of 956 (by decide +kernel) (by decide +kernel)
theorem wd_957 : Cond.methodLink "TurfHeaps" 275 (⟨"TurfHeaps", "heapsWithMore", "(II)I"⟩ : MethodName) ∈ hpT := hpT_of 957 (by decide +kernel) (by decide +kernel)
theorem wd_959 : Cond.instanceMethod (⟨"TurfHeaps", "heapsWithMore", "(II)I"⟩ : MethodName) ∈ hpT := hpT_of 959 (by decide +kernel) (by decide +kernel)
theorem wd_960 : Cond.code (⟨"TurfHeaps", "heapsWithMore", "(II)I"⟩ : MethodName) prog_1_method_90_code 3 (some FieldType.int) ∈ hpT := hpT_of 960 (by decide +kernel) (by decide +kernel)
theorem wd_969 : Cond.methodLink "TurfHeaps" 281 (⟨"TurfHeaps", "heapsWithSet", "(I)I"⟩ : MethodName) ∈ hpT := hpT_of 969 (by decide +kernel) (by decide +kernel)
theorem wd_971 : Cond.instanceMethod (⟨"TurfHeaps", "heapsWithSet", "(I)I"⟩ : MethodName) ∈ hpT := hpT_of 971 (by decide +kernel) (by decide +kernel)
theorem wd_972 : Cond.code (⟨"TurfHeaps", "heapsWithSet", "(I)I"⟩ : MethodName) prog_1_method_91_code 2 (some FieldType.int) ∈ hpT := hpT_of 972 (by decide +kernel) (by decide +kernel)
theorem wd_977 : Cond.methodLink "TurfHeaps" 284 (⟨"TurfHeaps", "seenFault", "(IZ)I"⟩ : MethodName) ∈ hpT := hpT_of 977 (by decide +kernel) (by decide +kernel)
theorem wd_979 : Cond.instanceMethod (⟨"TurfHeaps", "seenFault", "(IZ)I"⟩ : MethodName) ∈ hpT := hpT_of 979 (by decide +kernel) (by decide +kernel)
theorem wd_980 : Cond.code (⟨"TurfHeaps", "seenFault", "(IZ)I"⟩ : MethodName) prog_1_method_112_code 3 (some FieldType.int) ∈ hpT := hpT_of 980 (by decide +kernel) (by decide +kernel)
theorem wd_983 : Cond.instanceMethod (⟨"TurfHeaps$Slot", "isOfThrees", "(I)Z"⟩ : MethodName) ∈ hpT := hpT_of 983 (by decide +kernel) (by decide +kernel)
theorem wd_984 : Cond.code (⟨"TurfHeaps$Slot", "isOfThrees", "(I)Z"⟩ : MethodName) prog_8_method_5_code 4 (some FieldType.boolean) ∈ hpT := hpT_of 984 (by decide +kernel) (by decide +kernel)
theorem wd_985 : Cond.methodLink "TurfHeaps" 288 (⟨"TurfHeaps", "lookAt", "(II)LTurfHeaps$Seen;"⟩ : MethodName) ∈ hpT := hpT_of 985 (by decide +kernel) (by decide +kernel)
theorem wd_987 : Cond.instanceMethod (⟨"TurfHeaps", "lookAt", "(II)LTurfHeaps$Seen;"⟩ : MethodName) ∈ hpT := hpT_of 987 (by decide +kernel) (by decide +kernel)
theorem wd_988 : Cond.code (⟨"TurfHeaps", "lookAt", "(II)LTurfHeaps$Seen;"⟩ : MethodName) prog_1_method_113_code 4 (Option.some (FieldType.object "TurfHeaps$Seen")) ∈ hpT := hpT_of 988 (by decide +kernel) (by decide +kernel)
theorem wd_991 : Cond.instanceMethod (⟨"TurfHeaps$Seen", "clear", "()V"⟩ : MethodName) ∈ hpT := hpT_of 991 (by decide +kernel) (by decide +kernel)
theorem wd_992 : Cond.code (⟨"TurfHeaps$Seen", "clear", "()V"⟩ : MethodName) prog_7_method_2_code 1 (none : Option FieldType) ∈ hpT := hpT_of 992 (by decide +kernel) (by decide +kernel)
theorem wd_995 : Cond.instanceMethod (⟨"TurfHeaps$Slot", "tellsOf", "(LTurfHeaps$Season;)Z"⟩ : MethodName) ∈ hpT := hpT_of 995 (by decide +kernel) (by decide +kernel)
theorem wd_996 : Cond.code (⟨"TurfHeaps$Slot", "tellsOf", "(LTurfHeaps$Season;)Z"⟩ : MethodName) prog_8_method_6_code 4 (some FieldType.boolean) ∈ hpT := hpT_of 996 (by decide +kernel) (by decide +kernel)
theorem wd_1001 : Cond.instanceMethod (⟨"TurfHeaps$Seen", "keep", "(ILTurfHeaps$Season;)V"⟩ : MethodName) ∈ hpT := hpT_of 1001 (by decide +kernel) (by decide +kernel)
theorem wd_1002 : Cond.code (⟨"TurfHeaps$Seen", "keep", "(ILTurfHeaps$Season;)V"⟩ : MethodName) prog_7_method_3_code 4 (none : Option FieldType) ∈ hpT := hpT_of 1002 (by decide +kernel) (by decide +kernel)
theorem wd_1010 : Cond.instanceMethod (⟨"TurfHeaps$Seen", "lowest", "()I"⟩ : MethodName) ∈ hpT := hpT_of 1010 (by decide +kernel) (by decide +kernel)
theorem wd_1011 : Cond.code (⟨"TurfHeaps$Seen", "lowest", "()I"⟩ : MethodName) prog_7_method_4_code 1 (some FieldType.int) ∈ hpT := hpT_of 1011 (by decide +kernel) (by decide +kernel)
theorem wd_1018 : Cond.instanceMethod (⟨"TurfHeaps$Seen", "highest", "()I"⟩ : MethodName) ∈ hpT := hpT_of 1018 (by decide +kernel) (by decide +kernel)
theorem wd_1019 : Cond.code (⟨"TurfHeaps$Seen", "highest", "()I"⟩ : MethodName) prog_7_method_5_code 1 (some FieldType.int) ∈ hpT := hpT_of 1019 (by decide +kernel) (by decide +kernel)
theorem wd_1026 : Cond.instanceMethod (⟨"TurfHeaps$Seen", "bestDay", "(I)I"⟩ : MethodName) ∈ hpT := hpT_of 1026 (by decide +kernel) (by decide +kernel)
theorem wd_1027 : Cond.code (⟨"TurfHeaps$Seen", "bestDay", "(I)I"⟩ : MethodName) prog_7_method_6_code 6 (some FieldType.int) ∈ hpT := hpT_of 1027 (by decide +kernel) (by decide +kernel)
theorem wd_1028 : Cond.methodLink "TurfHeaps$Seen" 34 (⟨"TurfHeaps$Seen", "worstOf", "(I)I"⟩ : MethodName) ∈ hpT := hpT_of 1028 (by decide +kernel) (by decide +kernel)
theorem wd_1030 : Cond.instanceMethod (⟨"TurfHeaps$Seen", "worstOf", "(I)I"⟩ : MethodName) ∈ hpT := hpT_of 1030 (by decide +kernel) (by decide +kernel)
theorem wd_1031 : Cond.code (⟨"TurfHeaps$Seen", "worstOf", "(I)I"⟩ : MethodName) prog_7_method_8_code 6 (some FieldType.int) ∈ hpT := hpT_of 1031 (by decide +kernel) (by decide +kernel)
theorem wd_1032 : Cond.methodLink "TurfHeaps$Seen" 41 (⟨"java/lang/Math", "max", "(II)I"⟩ : MethodName) ∈ hpT := hpT_of 1032 (by decide +kernel) (by decide +kernel)
theorem wd_1039 : Cond.instanceMethod (⟨"TurfHeaps$Seen", "leftAtWorst", "(I)I"⟩ : MethodName) ∈ hpT := hpT_of 1039 (by decide +kernel) (by decide +kernel)
theorem wd_1040 : Cond.code (⟨"TurfHeaps$Seen", "leftAtWorst", "(I)I"⟩ : MethodName) prog_7_method_7_code 3 (some FieldType.int) ∈ hpT := hpT_of 1040 (by decide +kernel) (by decide +kernel)
theorem wd_1041 : Cond.methodLink "TurfHeaps$Seen" 38 (⟨"TurfHeaps$Seen", "bestDay", "(I)I"⟩ : MethodName) ∈ hpT := hpT_of 1041 (by decide +kernel) (by decide +kernel)
theorem wd_1046 : Cond.methodLink "TurfHeaps" 303 (⟨"TurfHeaps", "passByLaw", "(I)LTurfHeaps$Row;"⟩ : MethodName) ∈ hpT := hpT_of 1046 (by decide +kernel) (by decide +kernel)
theorem wd_1048 : Cond.instanceMethod (⟨"TurfHeaps", "passByLaw", "(I)LTurfHeaps$Row;"⟩ : MethodName) ∈ hpT := hpT_of 1048 (by decide +kernel) (by decide +kernel)
theorem wd_1049 : Cond.code (⟨"TurfHeaps", "passByLaw", "(I)LTurfHeaps$Row;"⟩ : MethodName) prog_1_method_93_code 2 (Option.some (FieldType.object "TurfHeaps$Row")) ∈ hpT := hpT_of 1049 (by decide +kernel) (by decide +kernel)
theorem wd_1066 : Cond.methodLink "TurfHeaps" 310 (⟨"TurfHeaps", "knowWorths", "()V"⟩ : MethodName) ∈ hpT := hpT_of 1066 (by decide +kernel) (by decide +kernel)
theorem wd_1068 : Cond.instanceMethod (⟨"TurfHeaps", "knowWorths", "()V"⟩ : MethodName) ∈ hpT := hpT_of 1068 (by decide +kernel) (by decide +kernel)
theorem wd_1069 : Cond.code (⟨"TurfHeaps", "knowWorths", "()V"⟩ : MethodName) prog_1_method_99_code 2 (none : Option FieldType) ∈ hpT := hpT_of 1069 (by decide +kernel) (by decide +kernel)
theorem wd_1070 : Cond.methodLink "TurfHeaps" 313 (⟨"TurfHeaps", "gainOverOrders", "(I)I"⟩ : MethodName) ∈ hpT := hpT_of 1070 (by decide +kernel) (by decide +kernel)
theorem wd_1072 : Cond.instanceMethod (⟨"TurfHeaps", "gainOverOrders", "(I)I"⟩ : MethodName) ∈ hpT := hpT_of 1072 (by decide +kernel) (by decide +kernel)
theorem wd_1073 : Cond.code (⟨"TurfHeaps", "gainOverOrders", "(I)I"⟩ : MethodName) prog_1_method_98_code 7 (some FieldType.int) ∈ hpT := hpT_of 1073 (by decide +kernel) (by decide +kernel)
theorem wd_1074 : Cond.methodLink "TurfHeaps" 458 (⟨"java/lang/Integer", "bitCount", "(I)I"⟩ : MethodName) ∈ hpT := hpT_of 1074 (by decide +kernel) (by decide +kernel)
theorem wd_1080 : Cond.methodLink "TurfHeaps" 316 (⟨"TurfHeaps", "factorial", "(I)I"⟩ : MethodName) ∈ hpT := hpT_of 1080 (by decide +kernel) (by decide +kernel)
theorem wd_1081 : Cond.static (⟨"TurfHeaps", "factorial", "(I)I"⟩ : MethodName) ∈ hpT := hpT_of 1081 (by decide +kernel) (by decide +kernel)
theorem wd_1082 : Cond.code (⟨"TurfHeaps", "factorial", "(I)I"⟩ : MethodName) prog_1_method_100_code 3 (some FieldType.int) ∈ hpT := hpT_of 1082 (by decide +kernel) (by decide +kernel)
theorem wd_1083 : Cond.methodLink "TurfHeaps" 319 (⟨"TurfHeaps", "fraction", "(JJI)J"⟩ : MethodName) ∈ hpT := hpT_of 1083 (by decide +kernel) (by decide +kernel)
theorem wd_1084 : Cond.static (⟨"TurfHeaps", "fraction", "(JJI)J"⟩ : MethodName) ∈ hpT := hpT_of 1084 (by decide +kernel) (by decide +kernel)
theorem wd_1085 : Cond.code (⟨"TurfHeaps", "fraction", "(JJI)J"⟩ : MethodName) prog_1_method_101_code 7 (some FieldType.long) ∈ hpT := hpT_of 1085 (by decide +kernel) (by decide +kernel)
theorem wd_1086 : Cond.methodLink "TurfHeaps" 463 (⟨"java/lang/Math", "abs", "(J)J"⟩ : MethodName) ∈ hpT := hpT_of 1086 (by decide +kernel) (by decide +kernel)
theorem wd_1087 : Cond.static (⟨"java/lang/Math", "abs", "(J)J"⟩ : MethodName) ∈ hpT := hpT_of 1087 (by decide +kernel) (by decide +kernel)
theorem wd_1088 : Cond.code (⟨"java/lang/Math", "abs", "(J)J"⟩ : MethodName) prog_13_method_61_code 2 (some FieldType.long) ∈ hpT := hpT_of 1088 (by decide +kernel) (by decide +kernel)
theorem wd_1089 : Cond.methodLink "TurfHeaps" 467 (⟨"TurfHeaps", "commonDivisor", "(JJ)J"⟩ : MethodName) ∈ hpT := hpT_of 1089 (by decide +kernel) (by decide +kernel)
theorem wd_1090 : Cond.static (⟨"TurfHeaps", "commonDivisor", "(JJ)J"⟩ : MethodName) ∈ hpT := hpT_of 1090 (by decide +kernel) (by decide +kernel)
theorem wd_1091 : Cond.code (⟨"TurfHeaps", "commonDivisor", "(JJ)J"⟩ : MethodName) prog_1_method_102_code 11 (some FieldType.long) ∈ hpT := hpT_of 1091 (by decide +kernel) (by decide +kernel)
theorem wd_1098 : Cond.instanceMethod (⟨"TurfHeaps$Row", "nimSum", "(I)I"⟩ : MethodName) ∈ hpT := hpT_of 1098 (by decide +kernel) (by decide +kernel)
theorem wd_1099 : Cond.code (⟨"TurfHeaps$Row", "nimSum", "(I)I"⟩ : MethodName) prog_5_method_23_code 4 (some FieldType.int) ∈ hpT := hpT_of 1099 (by decide +kernel) (by decide +kernel)
theorem wd_1106 : Cond.instanceMethod (⟨"TurfHeaps$Row", "winningTake", "(II)I"⟩ : MethodName) ∈ hpT := hpT_of 1106 (by decide +kernel) (by decide +kernel)
theorem wd_1107 : Cond.code (⟨"TurfHeaps$Row", "winningTake", "(II)I"⟩ : MethodName) prog_5_method_24_code 7 (some FieldType.int) ∈ hpT := hpT_of 1107 (by decide +kernel) (by decide +kernel)
theorem wd_1108 : Cond.methodLink "TurfHeaps$Row" 67 (⟨"TurfHeaps$Row", "nimSum", "(I)I"⟩ : MethodName) ∈ hpT := hpT_of 1108 (by decide +kernel) (by decide +kernel)
theorem wd_1117 : Cond.methodLink "TurfHeaps" 332 (⟨"TurfHeaps", "passLate", "(IIII)LTurfHeaps$Row;"⟩ : MethodName) ∈ hpT := hpT_of 1117 (by decide +kernel) (by decide +kernel)
theorem wd_1119 : Cond.instanceMethod (⟨"TurfHeaps", "passLate", "(IIII)LTurfHeaps$Row;"⟩ : MethodName) ∈ hpT := hpT_of 1119 (by decide +kernel) (by decide +kernel)
theorem wd_1120 : Cond.code (⟨"TurfHeaps", "passLate", "(IIII)LTurfHeaps$Row;"⟩ : MethodName) prog_1_method_94_code 5 (Option.some (FieldType.object "TurfHeaps$Row")) ∈ hpT := hpT_of 1120 (by decide +kernel) (by decide +kernel)
theorem wd_1121 : Cond.methodLink "TurfHeaps" 336 (⟨"TurfHeaps", "payOfFirst", "(LTurfHeaps$Row;I)I"⟩ : MethodName) ∈ hpT := hpT_of 1121 (by decide +kernel) (by decide +kernel)
theorem wd_1122 : Cond.static (⟨"TurfHeaps", "payOfFirst", "(LTurfHeaps$Row;I)I"⟩ : MethodName) ∈ hpT := hpT_of 1122 (by decide +kernel) (by decide +kernel)
theorem wd_1123 : Cond.code (⟨"TurfHeaps", "payOfFirst", "(LTurfHeaps$Row;I)I"⟩ : MethodName) prog_1_method_95_code 2 (some FieldType.int) ∈ hpT := hpT_of 1123 (by decide +kernel) (by decide +kernel)
theorem wd_1124 : Cond.methodLink "TurfHeaps" 339 (⟨"TurfHeaps", "payOfSecond", "(LTurfHeaps$Row;I)I"⟩ : MethodName) ∈ hpT := hpT_of 1124 (by decide +kernel) (by decide +kernel)
theorem wd_1125 : Cond.static (⟨"TurfHeaps", "payOfSecond", "(LTurfHeaps$Row;I)I"⟩ : MethodName) ∈ hpT := hpT_of 1125 (by decide +kernel) (by decide +kernel)
theorem wd_1126 : Cond.code (⟨"TurfHeaps", "payOfSecond", "(LTurfHeaps$Row;I)I"⟩ : MethodName) prog_1_method_96_code 2 (some FieldType.int) ∈ hpT := hpT_of 1126 (by decide +kernel) (by decide +kernel)
theorem wd_1135 : Cond.methodLink "TurfHeaps" 342 (⟨"TurfHeaps", "isChanceDay", "(I)Z"⟩ : MethodName) ∈ hpT := hpT_of 1135 (by decide +kernel) (by decide +kernel)
theorem wd_1137 : Cond.instanceMethod (⟨"TurfHeaps", "isChanceDay", "(I)Z"⟩ : MethodName) ∈ hpT := hpT_of 1137 (by decide +kernel) (by decide +kernel)
theorem wd_1138 : Cond.code (⟨"TurfHeaps", "isChanceDay", "(I)Z"⟩ : MethodName) prog_1_method_77_code 2 (some FieldType.boolean) ∈ hpT := hpT_of 1138 (by decide +kernel) (by decide +kernel)
theorem wd_1139 : Cond.constantLong "TurfHeaps" 345 (-2 : Int64) ∈ hpT := hpT_of 1139 (by decide +kernel) (by decide +kernel)
theorem wd_1140 : Cond.methodLink "TurfHeaps" 347 (⟨"TurfHeaps", "weighHeaps", "(II)J"⟩ : MethodName) ∈ hpT := hpT_of 1140 (by decide +kernel) (by decide +kernel)
theorem wd_1142 : Cond.instanceMethod (⟨"TurfHeaps", "weighHeaps", "(II)J"⟩ : MethodName) ∈ hpT := hpT_of 1142 (by decide +kernel) (by decide +kernel)
theorem wd_1143 : Cond.code (⟨"TurfHeaps", "weighHeaps", "(II)J"⟩ : MethodName) prog_1_method_103_code 10 (some FieldType.long) ∈ hpT := hpT_of 1143 (by decide +kernel) (by decide +kernel)
theorem wd_1145 : Cond.methodLink "TurfHeaps" 474 (⟨"java/lang/Math", "min", "(II)I"⟩ : MethodName) ∈ hpT := hpT_of 1145 (by decide +kernel) (by decide +kernel)
theorem wd_1146 : Cond.methodLink "TurfHeaps" 477 (⟨"TurfHeaps", "weightOf", "(II)J"⟩ : MethodName) ∈ hpT := hpT_of 1146 (by decide +kernel) (by decide +kernel)
theorem wd_1148 : Cond.instanceMethod (⟨"TurfHeaps", "weightOf", "(II)J"⟩ : MethodName) ∈ hpT := hpT_of 1148 (by decide +kernel) (by decide +kernel)
theorem wd_1149 : Cond.code (⟨"TurfHeaps", "weightOf", "(II)J"⟩ : MethodName) prog_1_method_105_code 6 (some FieldType.long) ∈ hpT := hpT_of 1149 (by decide +kernel) (by decide +kernel)
theorem wd_1150 : Cond.methodLink "TurfHeaps" 480 (⟨"TurfHeaps", "passChoice", "(III)V"⟩ : MethodName) ∈ hpT := hpT_of 1150 (by decide +kernel) (by decide +kernel)
theorem wd_1152 : Cond.instanceMethod (⟨"TurfHeaps", "passChoice", "(III)V"⟩ : MethodName) ∈ hpT := hpT_of 1152 (by decide +kernel) (by decide +kernel)
theorem wd_1153 : Cond.code (⟨"TurfHeaps", "passChoice", "(III)V"⟩ : MethodName) prog_1_method_104_code 5 (none : Option FieldType) ∈ hpT := hpT_of 1153 (by decide +kernel) (by decide +kernel)
theorem wd_1155 : Cond.methodLink "TurfHeaps" 484 (⟨"TurfHeaps", "countOf", "(II)I"⟩ : MethodName) ∈ hpT := hpT_of 1155 (by decide +kernel) (by decide +kernel)
theorem wd_1156 : Cond.static (⟨"TurfHeaps", "countOf", "(II)I"⟩ : MethodName) ∈ hpT := hpT_of 1156 (by decide +kernel) (by decide +kernel)
theorem wd_1157 : Cond.code (⟨"TurfHeaps", "countOf", "(II)I"⟩ : MethodName) prog_1_method_106_code 2 (some FieldType.int) ∈ hpT := hpT_of 1157 (by decide +kernel) (by decide +kernel)
theorem wd_1158 : Cond.methodLink "TurfHeaps" 351 (⟨"TurfHeaps", "powerOfTen", "(I)J"⟩ : MethodName) ∈ hpT := hpT_of 1158 (by decide +kernel) (by decide +kernel)
theorem wd_1159 : Cond.static (⟨"TurfHeaps", "powerOfTen", "(I)J"⟩ : MethodName) ∈ hpT := hpT_of 1159 (by decide +kernel) (by decide +kernel)
theorem wd_1160 : Cond.code (⟨"TurfHeaps", "powerOfTen", "(I)J"⟩ : MethodName) prog_1_method_107_code 4 (some FieldType.long) ∈ hpT := hpT_of 1160 (by decide +kernel) (by decide +kernel)
theorem wd_1161 : Cond.constantLong "TurfHeaps" 491 (10 : Int64) ∈ hpT := hpT_of 1161 (by decide +kernel) (by decide +kernel)
theorem wd_1170 : Cond.methodLink "TurfHeaps" 355 (⟨"TurfHeaps", "act", "(II)I"⟩ : MethodName) ∈ hpT := hpT_of 1170 (by decide +kernel) (by decide +kernel)
theorem wd_1172 : Cond.instanceMethod (⟨"TurfHeaps", "act", "(II)I"⟩ : MethodName) ∈ hpT := hpT_of 1172 (by decide +kernel) (by decide +kernel)
theorem wd_1173 : Cond.code (⟨"TurfHeaps", "act", "(II)I"⟩ : MethodName) prog_1_method_97_code 3 (some FieldType.int) ∈ hpT := hpT_of 1173 (by decide +kernel) (by decide +kernel)
theorem wd_1190 : Cond.constant "TurfHeaps" 361 (2000000000 : Int32) ∈ hpT := hpT_of 1190 (by decide +kernel) (by decide +kernel)
theorem wd_1191 : Cond.methodLink "TurfHeaps" 362 (⟨"TurfHeaps", "wetDays", "(J)I"⟩ : MethodName) ∈ hpT := hpT_of 1191 (by decide +kernel) (by decide +kernel)
theorem wd_1193 : Cond.instanceMethod (⟨"TurfHeaps", "wetDays", "(J)I"⟩ : MethodName) ∈ hpT := hpT_of 1193 (by decide +kernel) (by decide +kernel)
theorem wd_1194 : Cond.code (⟨"TurfHeaps", "wetDays", "(J)I"⟩ : MethodName) prog_1_method_108_code 7 (some FieldType.int) ∈ hpT := hpT_of 1194 (by decide +kernel) (by decide +kernel)
theorem wd_1195 : Cond.constantLong "TurfHeaps" 493 (1103515245 : Int64) ∈ hpT := hpT_of 1195 (by decide +kernel) (by decide +kernel)
theorem wd_1196 : Cond.constantLong "TurfHeaps" 495 (12345 : Int64) ∈ hpT := hpT_of 1196 (by decide +kernel) (by decide +kernel)
theorem wd_1197 : Cond.constantLong "TurfHeaps" 497 (2147483647 : Int64) ∈ hpT := hpT_of 1197 (by decide +kernel) (by decide +kernel)
theorem wd_1198 : Cond.constantLong "TurfHeaps" 499 (65536 : Int64) ∈ hpT := hpT_of 1198 (by decide +kernel) (by decide +kernel)
theorem wd_1199 : Cond.methodLink "TurfHeaps" 366 (⟨"TurfHeaps", "heapsWithWet", "(I)I"⟩ : MethodName) ∈ hpT := hpT_of 1199 (by decide +kernel) (by decide +kernel)
theorem wd_1201 : Cond.instanceMethod (⟨"TurfHeaps", "heapsWithWet", "(I)I"⟩ : MethodName) ∈ hpT := hpT_of 1201 (by decide +kernel) (by decide +kernel)
theorem wd_1202 : Cond.code (⟨"TurfHeaps", "heapsWithWet", "(I)I"⟩ : MethodName) prog_1_method_92_code 2 (some FieldType.int) ∈ hpT := hpT_of 1202 (by decide +kernel) (by decide +kernel)
theorem wd_1215 : Cond.methodLink "TurfHeaps" 375 (⟨"TurfHeaps", "slotsWithRow", "()I"⟩ : MethodName) ∈ hpT := hpT_of 1215 (by decide +kernel) (by decide +kernel)
theorem wd_1217 : Cond.instanceMethod (⟨"TurfHeaps", "slotsWithRow", "()I"⟩ : MethodName) ∈ hpT := hpT_of 1217 (by decide +kernel) (by decide +kernel)
theorem wd_1218 : Cond.code (⟨"TurfHeaps", "slotsWithRow", "()I"⟩ : MethodName) prog_1_method_109_code 3 (some FieldType.int) ∈ hpT := hpT_of 1218 (by decide +kernel) (by decide +kernel)
theorem wd_1233 : Cond.instanceMethod (⟨"TurfHeaps$Slot", "lay", "(II)V"⟩ : MethodName) ∈ hpT := hpT_of 1233 (by decide +kernel) (by decide +kernel)
theorem wd_1234 : Cond.code (⟨"TurfHeaps$Slot", "lay", "(II)V"⟩ : MethodName) prog_8_method_2_code 4 (none : Option FieldType) ∈ hpT := hpT_of 1234 (by decide +kernel) (by decide +kernel)
theorem wd_1239 : Cond.methodLink "TurfHeaps" 400 (⟨"TurfHeaps", "cut", "(JI)J"⟩ : MethodName) ∈ hpT := hpT_of 1239 (by decide +kernel) (by decide +kernel)
theorem wd_1240 : Cond.static (⟨"TurfHeaps", "cut", "(JI)J"⟩ : MethodName) ∈ hpT := hpT_of 1240 (by decide +kernel) (by decide +kernel)
theorem wd_1241 : Cond.code (⟨"TurfHeaps", "cut", "(JI)J"⟩ : MethodName) prog_1_method_110_code 3 (some FieldType.long) ∈ hpT := hpT_of 1241 (by decide +kernel) (by decide +kernel)
theorem wd_1248 : Cond.instanceMethod (⟨"TurfHeaps$Slot", "reaches", "(II)Z"⟩ : MethodName) ∈ hpT := hpT_of 1248 (by decide +kernel) (by decide +kernel)
theorem wd_1249 : Cond.code (⟨"TurfHeaps$Slot", "reaches", "(II)Z"⟩ : MethodName) prog_8_method_3_code 3 (some FieldType.boolean) ∈ hpT := hpT_of 1249 (by decide +kernel) (by decide +kernel)
theorem wd_1250 : Cond.methodLink "TurfHeaps" 408 (⟨"java/lang/System", "arraycopy", "(Ljava/lang/Object;ILjava/lang/Object;II)V"⟩ : MethodName) ∈ hpT := hpT_of 1250 (by decide +kernel) (by decide +kernel)
theorem nw_33 {s : State} (h : hpN s) : va_Nw (Cond.fieldLinkNest "TurfHeaps" 86 "TurfHeaps$Tape" "size" "I" "TurfHeaps") s := hpN_of 33 (by decide +kernel) (by decide +kernel) h
theorem nw_36 {s : State} (h : hpN s) : va_Nw (Cond.fieldLinkNest "TurfHeaps" 107 "TurfHeaps$Tape" "fault" "I" "TurfHeaps") s := hpN_of 36 (by decide +kernel) (by decide +kernel) h
theorem nw_38 {s : State} (h : hpN s) : va_Nw (Cond.fieldLinkNest "TurfHeaps" 110 "TurfHeaps$Tape" "faultPlace" "I" "TurfHeaps") s := hpN_of 38 (by decide +kernel) (by decide +kernel) h
theorem nw_65 {s : State} (h : hpN s) : va_Nw (Cond.fieldLinkNest "TurfHeaps$Season" 63 "TurfHeaps$Moor" "told" "[I" "TurfHeaps") s := hpN_of 65 (by decide +kernel) (by decide +kernel) h
theorem nw_66 {s : State} (h : hpN s) : va_Nw (Cond.fieldLinkNest "TurfHeaps" 117 "TurfHeaps$Moor" "told" "[I" "TurfHeaps") s := hpN_of 66 (by decide +kernel) (by decide +kernel) h
theorem nw_67 {s : State} (h : hpN s) : va_Nw (Cond.fieldLinkNest "TurfHeaps$Tape" 94 "TurfHeaps$Moor" "told" "[I" "TurfHeaps") s := hpN_of 67 (by decide +kernel) (by decide +kernel) h
theorem nw_69 {s : State} (h : hpN s) : va_Nw (Cond.fieldLinkNest "TurfHeaps" 126 "TurfHeaps$Moor" "cartTurfs" "[I" "TurfHeaps") s := hpN_of 69 (by decide +kernel) (by decide +kernel) h
theorem nw_70 {s : State} (h : hpN s) : va_Nw (Cond.fieldLinkNest "TurfHeaps$Tape" 101 "TurfHeaps$Moor" "cartTurfs" "[I" "TurfHeaps") s := hpN_of 70 (by decide +kernel) (by decide +kernel) h
theorem nw_71 {s : State} (h : hpN s) : va_Nw (Cond.fieldLinkNest "TurfHeaps$Season" 91 "TurfHeaps$Moor" "cartTurfs" "[I" "TurfHeaps") s := hpN_of 71 (by decide +kernel) (by decide +kernel) h
theorem nw_73 {s : State} (h : hpN s) : va_Nw (Cond.fieldLinkNest "TurfHeaps$Season" 88 "TurfHeaps$Moor" "cartDay" "[I" "TurfHeaps") s := hpN_of 73 (by decide +kernel) (by decide +kernel) h
theorem nw_74 {s : State} (h : hpN s) : va_Nw (Cond.fieldLinkNest "TurfHeaps" 129 "TurfHeaps$Moor" "cartDay" "[I" "TurfHeaps") s := hpN_of 74 (by decide +kernel) (by decide +kernel) h
theorem nw_75 {s : State} (h : hpN s) : va_Nw (Cond.fieldLinkNest "TurfHeaps$Tape" 106 "TurfHeaps$Moor" "cartDay" "[I" "TurfHeaps") s := hpN_of 75 (by decide +kernel) (by decide +kernel) h
theorem nw_77 {s : State} (h : hpN s) : va_Nw (Cond.fieldLinkNest "TurfHeaps$Season" 100 "TurfHeaps$Moor" "actTurfs" "[I" "TurfHeaps") s := hpN_of 77 (by decide +kernel) (by decide +kernel) h
theorem nw_78 {s : State} (h : hpN s) : va_Nw (Cond.fieldLinkNest "TurfHeaps" 455 "TurfHeaps$Moor" "actTurfs" "[I" "TurfHeaps") s := hpN_of 78 (by decide +kernel) (by decide +kernel) h
theorem nw_80 {s : State} (h : hpN s) : va_Nw (Cond.fieldLinkNest "TurfHeaps$Season" 97 "TurfHeaps$Moor" "actDay" "[I" "TurfHeaps") s := hpN_of 80 (by decide +kernel) (by decide +kernel) h
theorem nw_81 {s : State} (h : hpN s) : va_Nw (Cond.fieldLinkNest "TurfHeaps" 452 "TurfHeaps$Moor" "actDay" "[I" "TurfHeaps") s := hpN_of 81 (by decide +kernel) (by decide +kernel) h
theorem nw_83 {s : State} (h : hpN s) : va_Nw (Cond.fieldLinkNest "TurfHeaps$Season" 50 "TurfHeaps$Moor" "days" "I" "TurfHeaps") s := hpN_of 83 (by decide +kernel) (by decide +kernel) h
theorem nw_84 {s : State} (h : hpN s) : va_Nw (Cond.fieldLinkNest "TurfHeaps$Tape" 79 "TurfHeaps$Moor" "days" "I" "TurfHeaps") s := hpN_of 84 (by decide +kernel) (by decide +kernel) h
theorem nw_85 {s : State} (h : hpN s) : va_Nw (Cond.fieldLinkNest "TurfHeaps" 181 "TurfHeaps$Moor" "days" "I" "TurfHeaps") s := hpN_of 85 (by decide +kernel) (by decide +kernel) h
theorem nw_86 {s : State} (h : hpN s) : va_Nw (Cond.fieldLinkNest "TurfHeaps$Season" 18 "TurfHeaps$Moor" "law" "I" "TurfHeaps") s := hpN_of 86 (by decide +kernel) (by decide +kernel) h
theorem nw_88 {s : State} (h : hpN s) : va_Nw (Cond.fieldLinkNest "TurfHeaps$Tape" 83 "TurfHeaps$Moor" "law" "I" "TurfHeaps") s := hpN_of 88 (by decide +kernel) (by decide +kernel) h
theorem nw_89 {s : State} (h : hpN s) : va_Nw (Cond.fieldLinkNest "TurfHeaps" 168 "TurfHeaps$Moor" "law" "I" "TurfHeaps") s := hpN_of 89 (by decide +kernel) (by decide +kernel) h
theorem nw_91 {s : State} (h : hpN s) : va_Nw (Cond.fieldLinkNest "TurfHeaps$Tape" 87 "TurfHeaps$Moor" "odds" "I" "TurfHeaps") s := hpN_of 91 (by decide +kernel) (by decide +kernel) h
theorem nw_92 {s : State} (h : hpN s) : va_Nw (Cond.fieldLinkNest "TurfHeaps" 369 "TurfHeaps$Moor" "odds" "I" "TurfHeaps") s := hpN_of 92 (by decide +kernel) (by decide +kernel) h
theorem nw_94 {s : State} (h : hpN s) : va_Nw (Cond.fieldLinkNest "TurfHeaps$Tape" 43 "TurfHeaps$Moor" "lines" "I" "TurfHeaps") s := hpN_of 94 (by decide +kernel) (by decide +kernel) h
theorem nw_95 {s : State} (h : hpN s) : va_Nw (Cond.fieldLinkNest "TurfHeaps" 104 "TurfHeaps$Moor" "lines" "I" "TurfHeaps") s := hpN_of 95 (by decide +kernel) (by decide +kernel) h
theorem nw_97 {s : State} (h : hpN s) : va_Nw (Cond.fieldLinkNest "TurfHeaps$Season" 60 "TurfHeaps$Moor" "heapsTold" "I" "TurfHeaps") s := hpN_of 97 (by decide +kernel) (by decide +kernel) h
theorem nw_98 {s : State} (h : hpN s) : va_Nw (Cond.fieldLinkNest "TurfHeaps$Tape" 89 "TurfHeaps$Moor" "heapsTold" "I" "TurfHeaps") s := hpN_of 98 (by decide +kernel) (by decide +kernel) h
theorem nw_99 {s : State} (h : hpN s) : va_Nw (Cond.fieldLinkNest "TurfHeaps" 372 "TurfHeaps$Moor" "heapsTold" "I" "TurfHeaps") s := hpN_of 99 (by decide +kernel) (by decide +kernel) h
theorem nw_101 {s : State} (h : hpN s) : va_Nw (Cond.fieldLinkNest "TurfHeaps$Tape" 98 "TurfHeaps$Moor" "carts" "I" "TurfHeaps") s := hpN_of 101 (by decide +kernel) (by decide +kernel) h
theorem nw_102 {s : State} (h : hpN s) : va_Nw (Cond.fieldLinkNest "TurfHeaps$Season" 85 "TurfHeaps$Moor" "carts" "I" "TurfHeaps") s := hpN_of 102 (by decide +kernel) (by decide +kernel) h
theorem nw_103 {s : State} (h : hpN s) : va_Nw (Cond.fieldLinkNest "TurfHeaps" 278 "TurfHeaps$Moor" "carts" "I" "TurfHeaps") s := hpN_of 103 (by decide +kernel) (by decide +kernel) h
theorem nw_105 {s : State} (h : hpN s) : va_Nw (Cond.fieldLinkNest "TurfHeaps$Season" 94 "TurfHeaps$Moor" "acts" "I" "TurfHeaps") s := hpN_of 105 (by decide +kernel) (by decide +kernel) h
theorem nw_106 {s : State} (h : hpN s) : va_Nw (Cond.fieldLinkNest "TurfHeaps" 358 "TurfHeaps$Moor" "acts" "I" "TurfHeaps") s := hpN_of 106 (by decide +kernel) (by decide +kernel) h
theorem nw_107 {s : State} (h : hpN s) : va_Nw (Cond.fieldLinkNest "TurfHeaps" 378 "TurfHeaps$Moor" "kept" "Z" "TurfHeaps") s := hpN_of 107 (by decide +kernel) (by decide +kernel) h
theorem nw_153 {s : State} (h : hpN s) : va_Nw (Cond.fieldLinkNest "TurfHeaps$Every" 93 "TurfHeaps$Row" "high" "[I" "TurfHeaps") s := hpN_of 153 (by decide +kernel) (by decide +kernel) h
theorem nw_154 {s : State} (h : hpN s) : va_Nw (Cond.fieldLinkNest "TurfHeaps" 329 "TurfHeaps$Row" "high" "[I" "TurfHeaps") s := hpN_of 154 (by decide +kernel) (by decide +kernel) h
theorem nw_156 {s : State} (h : hpN s) : va_Nw (Cond.fieldLinkNest "TurfHeaps$Every" 90 "TurfHeaps$Row" "times" "[I" "TurfHeaps") s := hpN_of 156 (by decide +kernel) (by decide +kernel) h
theorem nw_158 {s : State} (h : hpN s) : va_Nw (Cond.fieldLinkNest "TurfHeaps$Every" 87 "TurfHeaps$Row" "runs" "I" "TurfHeaps") s := hpN_of 158 (by decide +kernel) (by decide +kernel) h
theorem nw_159 {s : State} (h : hpN s) : va_Nw (Cond.fieldLinkNest "TurfHeaps" 152 "TurfHeaps$Row" "runs" "I" "TurfHeaps") s := hpN_of 159 (by decide +kernel) (by decide +kernel) h
theorem nw_161 {s : State} (h : hpN s) : va_Nw (Cond.fieldLinkNest "TurfHeaps$Round" 41 "TurfHeaps$Row" "heaps" "I" "TurfHeaps") s := hpN_of 161 (by decide +kernel) (by decide +kernel) h
theorem nw_162 {s : State} (h : hpN s) : va_Nw (Cond.fieldLinkNest "TurfHeaps$Seen" 30 "TurfHeaps$Row" "heaps" "I" "TurfHeaps") s := hpN_of 162 (by decide +kernel) (by decide +kernel) h
theorem nw_163 {s : State} (h : hpN s) : va_Nw (Cond.fieldLinkNest "TurfHeaps$Slot" 38 "TurfHeaps$Row" "heaps" "I" "TurfHeaps") s := hpN_of 163 (by decide +kernel) (by decide +kernel) h
theorem nw_164 {s : State} (h : hpN s) : va_Nw (Cond.fieldLinkNest "TurfHeaps" 139 "TurfHeaps$Row" "heaps" "I" "TurfHeaps") s := hpN_of 164 (by decide +kernel) (by decide +kernel) h
theorem nw_166 {s : State} (h : hpN s) : va_Nw (Cond.fieldLinkNest "TurfHeaps$Slot" 31 "TurfHeaps$Row" "turfs" "I" "TurfHeaps") s := hpN_of 166 (by decide +kernel) (by decide +kernel) h
theorem nw_167 {s : State} (h : hpN s) : va_Nw (Cond.fieldLinkNest "TurfHeaps" 146 "TurfHeaps$Row" "turfs" "I" "TurfHeaps") s := hpN_of 167 (by decide +kernel) (by decide +kernel) h
theorem nw_181 {s : State} (h : hpN s) : va_Nw (Cond.fieldLinkNest "TurfHeaps" 448 "TurfHeaps$Season" "law" "I" "TurfHeaps") s := hpN_of 181 (by decide +kernel) (by decide +kernel) h
theorem nw_183 {s : State} (h : hpN s) : va_Nw (Cond.fieldLinkNest "TurfHeaps" 442 "TurfHeaps$Season" "set" "I" "TurfHeaps") s := hpN_of 183 (by decide +kernel) (by decide +kernel) h
theorem nw_185 {s : State} (h : hpN s) : va_Nw (Cond.fieldLinkNest "TurfHeaps" 449 "TurfHeaps$Season" "late" "I" "TurfHeaps") s := hpN_of 185 (by decide +kernel) (by decide +kernel) h
theorem nw_187 {s : State} (h : hpN s) : va_Nw (Cond.fieldLinkNest "TurfHeaps" 445 "TurfHeaps$Season" "wet" "I" "TurfHeaps") s := hpN_of 187 (by decide +kernel) (by decide +kernel) h
theorem nw_189 {s : State} (h : hpN s) : va_Nw (Cond.fieldLinkNest "TurfHeaps" 436 "TurfHeaps$Season" "moreDay" "I" "TurfHeaps") s := hpN_of 189 (by decide +kernel) (by decide +kernel) h
theorem nw_191 {s : State} (h : hpN s) : va_Nw (Cond.fieldLinkNest "TurfHeaps" 439 "TurfHeaps$Season" "moreTurfs" "I" "TurfHeaps") s := hpN_of 191 (by decide +kernel) (by decide +kernel) h
theorem nw_193 {s : State} (h : hpN s) : va_Nw (Cond.fieldLinkNest "TurfHeaps" 510 "TurfHeaps$Season" "otherHeap" "I" "TurfHeaps") s := hpN_of 193 (by decide +kernel) (by decide +kernel) h
theorem nw_195 {s : State} (h : hpN s) : va_Nw (Cond.fieldLinkNest "TurfHeaps" 513 "TurfHeaps$Season" "otherTurfs" "I" "TurfHeaps") s := hpN_of 195 (by decide +kernel) (by decide +kernel) h
theorem nw_226 {s : State} (h : hpN s) : va_Nw (Cond.fieldLinkNest "TurfHeaps" 221 "TurfHeaps$Round" "steps" "I" "TurfHeaps") s := hpN_of 226 (by decide +kernel) (by decide +kernel) h
theorem nw_228 {s : State} (h : hpN s) : va_Nw (Cond.fieldLinkNest "TurfHeaps" 224 "TurfHeaps$Round" "turn" "I" "TurfHeaps") s := hpN_of 228 (by decide +kernel) (by decide +kernel) h
theorem nw_230 {s : State} (h : hpN s) : va_Nw (Cond.fieldLinkNest "TurfHeaps" 227 "TurfHeaps$Round" "mostHeaps" "I" "TurfHeaps") s := hpN_of 230 (by decide +kernel) (by decide +kernel) h
theorem nw_232 {s : State} (h : hpN s) : va_Nw (Cond.fieldLinkNest "TurfHeaps" 236 "TurfHeaps$Round" "firstStair" "I" "TurfHeaps") s := hpN_of 232 (by decide +kernel) (by decide +kernel) h
theorem nw_263 {s : State} (h : hpN s) : va_Nw (Cond.fieldLinkNest "TurfHeaps" 246 "TurfHeaps$Every" "size" "I" "TurfHeaps") s := hpN_of 263 (by decide +kernel) (by decide +kernel) h
theorem nw_265 {s : State} (h : hpN s) : va_Nw (Cond.fieldLinkNest "TurfHeaps" 247 "TurfHeaps$Every" "onRings" "I" "TurfHeaps") s := hpN_of 265 (by decide +kernel) (by decide +kernel) h
theorem nw_267 {s : State} (h : hpN s) : va_Nw (Cond.fieldLinkNest "TurfHeaps" 250 "TurfHeaps$Every" "ringCount" "I" "TurfHeaps") s := hpN_of 267 (by decide +kernel) (by decide +kernel) h
theorem nw_269 {s : State} (h : hpN s) : va_Nw (Cond.fieldLinkNest "TurfHeaps" 253 "TurfHeaps$Every" "notComeTo" "I" "TurfHeaps") s := hpN_of 269 (by decide +kernel) (by decide +kernel) h
theorem nw_271 {s : State} (h : hpN s) : va_Nw (Cond.fieldLinkNest "TurfHeaps" 256 "TurfHeaps$Every" "longestTail" "I" "TurfHeaps") s := hpN_of 271 (by decide +kernel) (by decide +kernel) h
theorem nw_317 {s : State} (h : hpN s) : va_Nw (Cond.fieldLinkNest "TurfHeaps" 292 "TurfHeaps$Seen" "possible" "I" "TurfHeaps") s := hpN_of 317 (by decide +kernel) (by decide +kernel) h
theorem nw_333 {s : State} (h : hpN s) : va_Nw (Cond.fieldLinkNest "TurfHeaps" 393 "TurfHeaps$Slot" "numbers" "[J" "TurfHeaps") s := hpN_of 333 (by decide +kernel) (by decide +kernel) h
theorem nw_335 {s : State} (h : hpN s) : va_Nw (Cond.fieldLinkNest "TurfHeaps" 389 "TurfHeaps$Slot" "has" "Z" "TurfHeaps") s := hpN_of 335 (by decide +kernel) (by decide +kernel) h
theorem nw_337 {s : State} (h : hpN s) : va_Nw (Cond.fieldLinkNest "TurfHeaps" 397 "TurfHeaps$Slot" "width" "I" "TurfHeaps") s := hpN_of 337 (by decide +kernel) (by decide +kernel) h
theorem nw_339 {s : State} (h : hpN s) : va_Nw (Cond.fieldLinkNest "TurfHeaps" 392 "TurfHeaps$Slot" "size" "I" "TurfHeaps") s := hpN_of 339 (by decide +kernel) (by decide +kernel) h
theorem nw_402 {s : State} (h : hpN s) : va_Nw (Cond.methodLinkNest "TurfHeaps" 89 (⟨"TurfHeaps$Tape", "put", "(I)V"⟩ : MethodName) "TurfHeaps") s := hpN_of 402 (by decide +kernel) (by decide +kernel) h
theorem nw_414 {s : State} (h : hpN s) : va_Nw (Cond.methodLinkNest "TurfHeaps" 93 (⟨"TurfHeaps$Tape", "readInto", "(LTurfHeaps$Moor;)Z"⟩ : MethodName) "TurfHeaps") s := hpN_of 414 (by decide +kernel) (by decide +kernel) h
theorem nw_418 {s : State} (h : hpN s) : va_Nw (Cond.methodLinkNest "TurfHeaps$Tape" 22 (⟨"TurfHeaps$Moor", "clear", "()V"⟩ : MethodName) "TurfHeaps") s := hpN_of 418 (by decide +kernel) (by decide +kernel) h
theorem nw_530 {s : State} (h : hpN s) : va_Nw (Cond.methodLinkNest "TurfHeaps" 97 (⟨"TurfHeaps$Moor", "become", "(LTurfHeaps$Moor;)V"⟩ : MethodName) "TurfHeaps") s := hpN_of 530 (by decide +kernel) (by decide +kernel) h
theorem nw_580 {s : State} (h : hpN s) : va_Nw (Cond.methodLinkNest "TurfHeaps" 420 (⟨"TurfHeaps$Season", "asTold", "(LTurfHeaps$Moor;)V"⟩ : MethodName) "TurfHeaps") s := hpN_of 580 (by decide +kernel) (by decide +kernel) h
theorem nw_584 {s : State} (h : hpN s) : va_Nw (Cond.methodLinkNest "TurfHeaps" 423 (⟨"TurfHeaps$Season", "pass", "(LTurfHeaps$Moor;)V"⟩ : MethodName) "TurfHeaps") s := hpN_of 584 (by decide +kernel) (by decide +kernel) h
theorem nw_592 {s : State} (h : hpN s) : va_Nw (Cond.methodLinkNest "TurfHeaps$Season" 57 (⟨"TurfHeaps$Row", "clear", "()V"⟩ : MethodName) "TurfHeaps") s := hpN_of 592 (by decide +kernel) (by decide +kernel) h
theorem nw_596 {s : State} (h : hpN s) : va_Nw (Cond.methodLinkNest "TurfHeaps$Season" 67 (⟨"TurfHeaps$Row", "lay", "(I)V"⟩ : MethodName) "TurfHeaps") s := hpN_of 596 (by decide +kernel) (by decide +kernel) h
theorem nw_609 {s : State} (h : hpN s) : va_Nw (Cond.methodLinkNest "TurfHeaps$Season" 103 (⟨"TurfHeaps$Row", "dropHighest", "()I"⟩ : MethodName) "TurfHeaps") s := hpN_of 609 (by decide +kernel) (by decide +kernel) h
theorem nw_617 {s : State} (h : hpN s) : va_Nw (Cond.methodLinkNest "TurfHeaps$Season" 74 (⟨"TurfHeaps$Row", "become", "(LTurfHeaps$Row;)V"⟩ : MethodName) "TurfHeaps") s := hpN_of 617 (by decide +kernel) (by decide +kernel) h
theorem nw_621 {s : State} (h : hpN s) : va_Nw (Cond.methodLinkNest "TurfHeaps$Season" 78 (⟨"TurfHeaps$Row", "step", "(I)V"⟩ : MethodName) "TurfHeaps") s := hpN_of 621 (by decide +kernel) (by decide +kernel) h
theorem nw_634 {s : State} (h : hpN s) : va_Nw (Cond.methodLinkNest "TurfHeaps" 426 (⟨"TurfHeaps$Season", "at", "(I)LTurfHeaps$Row;"⟩ : MethodName) "TurfHeaps") s := hpN_of 634 (by decide +kernel) (by decide +kernel) h
theorem nw_639 {s : State} (h : hpN s) : va_Nw (Cond.methodLinkNest "TurfHeaps" 142 (⟨"TurfHeaps$Row", "heapAt", "(I)I"⟩ : MethodName) "TurfHeaps") s := hpN_of 639 (by decide +kernel) (by decide +kernel) h
theorem nw_651 {s : State} (h : hpN s) : va_Nw (Cond.methodLinkNest "TurfHeaps" 149 (⟨"TurfHeaps$Row", "heapsOf", "(I)I"⟩ : MethodName) "TurfHeaps") s := hpN_of 651 (by decide +kernel) (by decide +kernel) h
theorem nw_663 {s : State} (h : hpN s) : va_Nw (Cond.methodLinkNest "TurfHeaps" 155 (⟨"TurfHeaps$Row", "highest", "()I"⟩ : MethodName) "TurfHeaps") s := hpN_of 663 (by decide +kernel) (by decide +kernel) h
theorem nw_667 {s : State} (h : hpN s) : va_Nw (Cond.methodLinkNest "TurfHeaps" 159 (⟨"TurfHeaps$Row", "lowest", "()I"⟩ : MethodName) "TurfHeaps") s := hpN_of 667 (by decide +kernel) (by decide +kernel) h
theorem nw_675 {s : State} (h : hpN s) : va_Nw (Cond.methodLinkNest "TurfHeaps" 162 (⟨"TurfHeaps$Row", "oddHeaps", "()I"⟩ : MethodName) "TurfHeaps") s := hpN_of 675 (by decide +kernel) (by decide +kernel) h
theorem nw_687 {s : State} (h : hpN s) : va_Nw (Cond.methodLinkNest "TurfHeaps" 171 (⟨"TurfHeaps$Row", "takenBy", "(I)I"⟩ : MethodName) "TurfHeaps") s := hpN_of 687 (by decide +kernel) (by decide +kernel) h
theorem nw_699 {s : State} (h : hpN s) : va_Nw (Cond.methodLinkNest "TurfHeaps" 174 (⟨"TurfHeaps$Row", "goneBy", "(I)I"⟩ : MethodName) "TurfHeaps") s := hpN_of 699 (by decide +kernel) (by decide +kernel) h
theorem nw_722 {s : State} (h : hpN s) : va_Nw (Cond.methodLinkNest "TurfHeaps" 193 (⟨"TurfHeaps$Row", "alike", "(LTurfHeaps$Row;)Z"⟩ : MethodName) "TurfHeaps") s := hpN_of 722 (by decide +kernel) (by decide +kernel) h
theorem nw_738 {s : State} (h : hpN s) : va_Nw (Cond.methodLinkNest "TurfHeaps" 197 (⟨"TurfHeaps$Row", "isStair", "()Z"⟩ : MethodName) "TurfHeaps") s := hpN_of 738 (by decide +kernel) (by decide +kernel) h
theorem nw_753 {s : State} (h : hpN s) : va_Nw (Cond.methodLinkNest "TurfHeaps" 204 (⟨"TurfHeaps$Row", "squareSide", "()I"⟩ : MethodName) "TurfHeaps") s := hpN_of 753 (by decide +kernel) (by decide +kernel) h
theorem nw_765 {s : State} (h : hpN s) : va_Nw (Cond.methodLinkNest "TurfHeaps" 207 (⟨"TurfHeaps$Row", "heapsFrom", "(I)I"⟩ : MethodName) "TurfHeaps") s := hpN_of 765 (by decide +kernel) (by decide +kernel) h
theorem nw_770 {s : State} (h : hpN s) : va_Nw (Cond.methodLinkNest "TurfHeaps" 210 (⟨"TurfHeaps$Row", "sameTurnedOver", "()Z"⟩ : MethodName) "TurfHeaps") s := hpN_of 770 (by decide +kernel) (by decide +kernel) h
theorem nw_780 {s : State} (h : hpN s) : va_Nw (Cond.methodLinkNest "TurfHeaps" 213 (⟨"TurfHeaps$Row", "standsTo", "(LTurfHeaps$Row;)I"⟩ : MethodName) "TurfHeaps") s := hpN_of 780 (by decide +kernel) (by decide +kernel) h
theorem nw_793 {s : State} (h : hpN s) : va_Nw (Cond.methodLinkNest "TurfHeaps" 429 (⟨"TurfHeaps$Round", "follow", "(LTurfHeaps$Row;I)V"⟩ : MethodName) "TurfHeaps") s := hpN_of 793 (by decide +kernel) (by decide +kernel) h
theorem nw_801 {s : State} (h : hpN s) : va_Nw (Cond.methodLinkNest "TurfHeaps$Round" 57 (⟨"TurfHeaps$Row", "become", "(LTurfHeaps$Row;)V"⟩ : MethodName) "TurfHeaps") s := hpN_of 801 (by decide +kernel) (by decide +kernel) h
theorem nw_802 {s : State} (h : hpN s) : va_Nw (Cond.methodLinkNest "TurfHeaps$Round" 54 (⟨"TurfHeaps$Row", "step", "(I)V"⟩ : MethodName) "TurfHeaps") s := hpN_of 802 (by decide +kernel) (by decide +kernel) h
theorem nw_803 {s : State} (h : hpN s) : va_Nw (Cond.methodLinkNest "TurfHeaps$Round" 61 (⟨"TurfHeaps$Row", "alike", "(LTurfHeaps$Row;)Z"⟩ : MethodName) "TurfHeaps") s := hpN_of 803 (by decide +kernel) (by decide +kernel) h
theorem nw_812 {s : State} (h : hpN s) : va_Nw (Cond.methodLinkNest "TurfHeaps$Round" 65 (⟨"TurfHeaps$Row", "isStair", "()Z"⟩ : MethodName) "TurfHeaps") s := hpN_of 812 (by decide +kernel) (by decide +kernel) h
theorem nw_826 {s : State} (h : hpN s) : va_Nw (Cond.methodLinkNest "TurfHeaps" 230 (⟨"TurfHeaps$Row", "become", "(LTurfHeaps$Row;)V"⟩ : MethodName) "TurfHeaps") s := hpN_of 826 (by decide +kernel) (by decide +kernel) h
theorem nw_827 {s : State} (h : hpN s) : va_Nw (Cond.methodLinkNest "TurfHeaps" 233 (⟨"TurfHeaps$Row", "step", "(I)V"⟩ : MethodName) "TurfHeaps") s := hpN_of 827 (by decide +kernel) (by decide +kernel) h
theorem nw_844 {s : State} (h : hpN s) : va_Nw (Cond.methodLinkNest "TurfHeaps" 433 (⟨"TurfHeaps$Every", "workOut", "(II)V"⟩ : MethodName) "TurfHeaps") s := hpN_of 844 (by decide +kernel) (by decide +kernel) h
theorem nw_869 {s : State} (h : hpN s) : va_Nw (Cond.methodLinkNest "TurfHeaps$Every" 96 (⟨"TurfHeaps$Row", "clear", "()V"⟩ : MethodName) "TurfHeaps") s := hpN_of 869 (by decide +kernel) (by decide +kernel) h
theorem nw_874 {s : State} (h : hpN s) : va_Nw (Cond.methodLinkNest "TurfHeaps$Every" 103 (⟨"TurfHeaps$Row", "lay", "(I)V"⟩ : MethodName) "TurfHeaps") s := hpN_of 874 (by decide +kernel) (by decide +kernel) h
theorem nw_875 {s : State} (h : hpN s) : va_Nw (Cond.methodLinkNest "TurfHeaps$Every" 110 (⟨"TurfHeaps$Row", "step", "(I)V"⟩ : MethodName) "TurfHeaps") s := hpN_of 875 (by decide +kernel) (by decide +kernel) h
theorem nw_923 {s : State} (h : hpN s) : va_Nw (Cond.methodLinkNest "TurfHeaps" 501 (⟨"TurfHeaps$Slot", "fillSmall", "(LTurfHeaps$Row;)Z"⟩ : MethodName) "TurfHeaps") s := hpN_of 923 (by decide +kernel) (by decide +kernel) h
theorem nw_927 {s : State} (h : hpN s) : va_Nw (Cond.methodLinkNest "TurfHeaps$Slot" 26 (⟨"TurfHeaps$Row", "clear", "()V"⟩ : MethodName) "TurfHeaps") s := hpN_of 927 (by decide +kernel) (by decide +kernel) h
theorem nw_928 {s : State} (h : hpN s) : va_Nw (Cond.methodLinkNest "TurfHeaps$Slot" 34 (⟨"TurfHeaps$Row", "lay", "(I)V"⟩ : MethodName) "TurfHeaps") s := hpN_of 928 (by decide +kernel) (by decide +kernel) h
theorem nw_929 {s : State} (h : hpN s) : va_Nw (Cond.methodLinkNest "TurfHeaps" 262 (⟨"TurfHeaps$Every", "comersTo", "(LTurfHeaps$Row;)I"⟩ : MethodName) "TurfHeaps") s := hpN_of 929 (by decide +kernel) (by decide +kernel) h
theorem nw_937 {s : State} (h : hpN s) : va_Nw (Cond.methodLinkNest "TurfHeaps" 265 (⟨"TurfHeaps$Every", "heapOfFirstComer", "(LTurfHeaps$Row;I)I"⟩ : MethodName) "TurfHeaps") s := hpN_of 937 (by decide +kernel) (by decide +kernel) h
theorem nw_945 {s : State} (h : hpN s) : va_Nw (Cond.methodLinkNest "TurfHeaps" 269 (⟨"TurfHeaps$Every", "tailOf", "(LTurfHeaps$Row;)I"⟩ : MethodName) "TurfHeaps") s := hpN_of 945 (by decide +kernel) (by decide +kernel) h
theorem nw_981 {s : State} (h : hpN s) : va_Nw (Cond.methodLinkNest "TurfHeaps" 504 (⟨"TurfHeaps$Slot", "isOfThrees", "(I)Z"⟩ : MethodName) "TurfHeaps") s := hpN_of 981 (by decide +kernel) (by decide +kernel) h
theorem nw_989 {s : State} (h : hpN s) : va_Nw (Cond.methodLinkNest "TurfHeaps" 507 (⟨"TurfHeaps$Seen", "clear", "()V"⟩ : MethodName) "TurfHeaps") s := hpN_of 989 (by decide +kernel) (by decide +kernel) h
theorem nw_993 {s : State} (h : hpN s) : va_Nw (Cond.methodLinkNest "TurfHeaps" 306 (⟨"TurfHeaps$Slot", "tellsOf", "(LTurfHeaps$Season;)Z"⟩ : MethodName) "TurfHeaps") s := hpN_of 993 (by decide +kernel) (by decide +kernel) h
theorem nw_997 {s : State} (h : hpN s) : va_Nw (Cond.methodLinkNest "TurfHeaps$Slot" 41 (⟨"TurfHeaps$Season", "at", "(I)LTurfHeaps$Row;"⟩ : MethodName) "TurfHeaps") s := hpN_of 997 (by decide +kernel) (by decide +kernel) h
theorem nw_998 {s : State} (h : hpN s) : va_Nw (Cond.methodLinkNest "TurfHeaps$Slot" 47 (⟨"TurfHeaps$Row", "highest", "()I"⟩ : MethodName) "TurfHeaps") s := hpN_of 998 (by decide +kernel) (by decide +kernel) h
theorem nw_999 {s : State} (h : hpN s) : va_Nw (Cond.methodLinkNest "TurfHeaps" 516 (⟨"TurfHeaps$Seen", "keep", "(ILTurfHeaps$Season;)V"⟩ : MethodName) "TurfHeaps") s := hpN_of 999 (by decide +kernel) (by decide +kernel) h
theorem nw_1003 {s : State} (h : hpN s) : va_Nw (Cond.methodLinkNest "TurfHeaps$Seen" 24 (⟨"TurfHeaps$Season", "at", "(I)LTurfHeaps$Row;"⟩ : MethodName) "TurfHeaps") s := hpN_of 1003 (by decide +kernel) (by decide +kernel) h
theorem nw_1008 {s : State} (h : hpN s) : va_Nw (Cond.methodLinkNest "TurfHeaps" 295 (⟨"TurfHeaps$Seen", "lowest", "()I"⟩ : MethodName) "TurfHeaps") s := hpN_of 1008 (by decide +kernel) (by decide +kernel) h
theorem nw_1016 {s : State} (h : hpN s) : va_Nw (Cond.methodLinkNest "TurfHeaps" 296 (⟨"TurfHeaps$Seen", "highest", "()I"⟩ : MethodName) "TurfHeaps") s := hpN_of 1016 (by decide +kernel) (by decide +kernel) h
theorem nw_1024 {s : State} (h : hpN s) : va_Nw (Cond.methodLinkNest "TurfHeaps" 297 (⟨"TurfHeaps$Seen", "bestDay", "(I)I"⟩ : MethodName) "TurfHeaps") s := hpN_of 1024 (by decide +kernel) (by decide +kernel) h
theorem nw_1037 {s : State} (h : hpN s) : va_Nw (Cond.methodLinkNest "TurfHeaps" 300 (⟨"TurfHeaps$Seen", "leftAtWorst", "(I)I"⟩ : MethodName) "TurfHeaps") s := hpN_of 1037 (by decide +kernel) (by decide +kernel) h
theorem nw_1096 {s : State} (h : hpN s) : va_Nw (Cond.methodLinkNest "TurfHeaps" 323 (⟨"TurfHeaps$Row", "nimSum", "(I)I"⟩ : MethodName) "TurfHeaps") s := hpN_of 1096 (by decide +kernel) (by decide +kernel) h
theorem nw_1104 {s : State} (h : hpN s) : va_Nw (Cond.methodLinkNest "TurfHeaps" 326 (⟨"TurfHeaps$Row", "winningTake", "(II)I"⟩ : MethodName) "TurfHeaps") s := hpN_of 1104 (by decide +kernel) (by decide +kernel) h
theorem nw_1144 {s : State} (h : hpN s) : va_Nw (Cond.methodLinkNest "TurfHeaps" 471 (⟨"TurfHeaps$Season", "begin", "(LTurfHeaps$Moor;)V"⟩ : MethodName) "TurfHeaps") s := hpN_of 1144 (by decide +kernel) (by decide +kernel) h
theorem nw_1154 {s : State} (h : hpN s) : va_Nw (Cond.methodLinkNest "TurfHeaps" 487 (⟨"TurfHeaps$Season", "next", "(LTurfHeaps$Moor;I)V"⟩ : MethodName) "TurfHeaps") s := hpN_of 1154 (by decide +kernel) (by decide +kernel) h
theorem nw_1231 {s : State} (h : hpN s) : va_Nw (Cond.methodLinkNest "TurfHeaps" 385 (⟨"TurfHeaps$Slot", "lay", "(II)V"⟩ : MethodName) "TurfHeaps") s := hpN_of 1231 (by decide +kernel) (by decide +kernel) h
theorem nw_1246 {s : State} (h : hpN s) : va_Nw (Cond.methodLinkNest "TurfHeaps" 404 (⟨"TurfHeaps$Slot", "reaches", "(II)Z"⟩ : MethodName) "TurfHeaps") s := hpN_of 1246 (by decide +kernel) (by decide +kernel) h
theorem yyX0_codeOf : hpYS yX0_codeOf cX0_codeOf 6 (some .long) 1 := ⟨wd_877, wd_7, wd_878, by decide +kernel, by decide +kernel, by decide +kernel⟩
theorem yyX0_codeOfParts : hpY yX0_codeOfParts cX0_codeOfParts 5 (some .long) 1 0 := ⟨⟨TX0, 15, tyX0, O0⟩, wd_854, (hpT_sel (q := (⟨"TurfHeaps$Every", "codeOfParts", "(I)J"⟩, 15)) 57 (by decide +kernel)), wd_7, wd_855, by decide +kernel, by decide +kernel, by decide +kernel⟩
theorem yyX0_comersTo : hpY yX0_comersTo cX0_comersTo 2 (some .int) 1 0 := ⟨⟨TX0, 15, tyX0, O0⟩, wd_931, (hpT_sel (q := (⟨"TurfHeaps$Every", "comersTo", "(LTurfHeaps$Row;)I"⟩, 15)) 67 (by decide +kernel)), wd_7, wd_932, by decide +kernel, by decide +kernel, by decide +kernel⟩
theorem yyX0_countRings : hpY yX0_countRings cX0_countRings 4 none 0 0 := ⟨⟨TX0, 15, tyX0, O0⟩, wd_894, (hpT_sel (q := (⟨"TurfHeaps$Every", "countRings", "()V"⟩, 15)) 64 (by decide +kernel)), wd_7, wd_895, by decide +kernel, by decide +kernel, by decide +kernel⟩
theorem yyX0_fill : hpY yX0_fill cX0_fill 4 none 1 0 := ⟨⟨TX0, 15, tyX0, O0⟩, wd_867, (hpT_sel (q := (⟨"TurfHeaps$Every", "fill", "(J)V"⟩, 15)) 60 (by decide +kernel)), wd_7, wd_868, by decide +kernel, by decide +kernel, by decide +kernel⟩
theorem yyX0_heapOfCode : hpYS yX0_heapOfCode cX0_heapOfCode 3 (some .int) 2 := ⟨wd_871, wd_7, wd_872, by decide +kernel, by decide +kernel, by decide +kernel⟩
theorem yyX0_heapOfFirstComer : hpY yX0_heapOfFirstComer cX0_heapOfFirstComer 6 (some .int) 2 0 := ⟨⟨TX0, 15, tyX0, O0⟩, wd_939, (hpT_sel (q := (⟨"TurfHeaps$Every", "heapOfFirstComer", "(LTurfHeaps$Row;I)I"⟩, 15)) 68 (by decide +kernel)), wd_7, wd_940, by decide +kernel, by decide +kernel, by decide +kernel⟩
theorem yyX0_indexOf : hpY yX0_indexOf cX0_indexOf 7 (some .int) 1 0 := ⟨⟨TX0, 15, tyX0, O0⟩, wd_881, (hpT_sel (q := (⟨"TurfHeaps$Every", "indexOf", "(J)I"⟩, 15)) 61 (by decide +kernel)), wd_7, wd_882, by decide +kernel, by decide +kernel, by decide +kernel⟩
theorem yyX0_linkRows : hpY yX0_linkRows cX0_linkRows 3 none 1 0 := ⟨⟨TX0, 15, tyX0, O0⟩, wd_863, (hpT_sel (q := (⟨"TurfHeaps$Every", "linkRows", "(I)V"⟩, 15)) 59 (by decide +kernel)), wd_7, wd_864, by decide +kernel, by decide +kernel, by decide +kernel⟩
theorem yyX0_listRows : hpY yX0_listRows cX0_listRows 3 none 1 0 := ⟨⟨TX0, 15, tyX0, O0⟩, wd_850, (hpT_sel (q := (⟨"TurfHeaps$Every", "listRows", "(I)V"⟩, 15)) 56 (by decide +kernel)), wd_7, wd_851, by decide +kernel, by decide +kernel, by decide +kernel⟩
theorem yyX0_measureTails : hpY yX0_measureTails cX0_measureTails 4 none 1 0 := ⟨⟨TX0, 15, tyX0, O0⟩, wd_889, (hpT_sel (q := (⟨"TurfHeaps$Every", "measureTails", "(I)V"⟩, 15)) 63 (by decide +kernel)), wd_7, wd_890, by decide +kernel, by decide +kernel, by decide +kernel⟩
theorem yyX0_nextParts : hpY yX0_nextParts cX0_nextParts 6 (some .int) 1 0 := ⟨⟨TX0, 15, tyX0, O0⟩, wd_858, (hpT_sel (q := (⟨"TurfHeaps$Every", "nextParts", "(I)I"⟩, 15)) 58 (by decide +kernel)), wd_7, wd_859, by decide +kernel, by decide +kernel, by decide +kernel⟩
theorem yyX0_peelTails : hpY yX0_peelTails cX0_peelTails 4 (some .int) 0 0 := ⟨⟨TX0, 15, tyX0, O0⟩, wd_885, (hpT_sel (q := (⟨"TurfHeaps$Every", "peelTails", "()I"⟩, 15)) 62 (by decide +kernel)), wd_7, wd_886, by decide +kernel, by decide +kernel, by decide +kernel⟩
theorem yyX0_tailOf : hpY yX0_tailOf cX0_tailOf 2 (some .int) 1 0 := ⟨⟨TX0, 15, tyX0, O0⟩, wd_947, (hpT_sel (q := (⟨"TurfHeaps$Every", "tailOf", "(LTurfHeaps$Row;)I"⟩, 15)) 69 (by decide +kernel)), wd_7, wd_948, by decide +kernel, by decide +kernel, by decide +kernel⟩
theorem yyX0_workOut : hpY yX0_workOut cX0_workOut 4 none 2 0 := ⟨⟨TX0, 15, tyX0, O0⟩, wd_846, (hpT_sel (q := (⟨"TurfHeaps$Every", "workOut", "(II)V"⟩, 15)) 55 (by decide +kernel)), wd_7, wd_847, by decide +kernel, by decide +kernel, by decide +kernel⟩
theorem yyX1_become : hpY yX1_become cX1_become 2 none 1 1 := ⟨⟨TX1, 13, tyX1, O1⟩, wd_532, (hpT_sel (q := (⟨"TurfHeaps$Moor", "become", "(LTurfHeaps$Moor;)V"⟩, 13)) 13 (by decide +kernel)), wd_3, wd_533, by decide +kernel, by decide +kernel, by decide +kernel⟩
theorem yyX1_clear : hpY yX1_clear cX1_clear 1 none 0 1 := ⟨⟨TX1, 13, tyX1, O1⟩, wd_420, (hpT_sel (q := (⟨"TurfHeaps$Moor", "clear", "()V"⟩, 13)) 2 (by decide +kernel)), wd_3, wd_421, by decide +kernel, by decide +kernel, by decide +kernel⟩
theorem yyX2_follow : hpY yX2_follow cX2_follow 4 none 2 2 := ⟨⟨TX2, 6, tyX2, O2⟩, wd_795, (hpT_sel (q := (⟨"TurfHeaps$Round", "follow", "(LTurfHeaps$Row;I)V"⟩, 6)) 49 (by decide +kernel)), wd_6, wd_796, by decide +kernel, by decide +kernel, by decide +kernel⟩
theorem yyX2_lookForStair : hpY yX2_lookForStair cX2_lookForStair 2 none 1 2 := ⟨⟨TX2, 6, tyX2, O2⟩, wd_810, (hpT_sel (q := (⟨"TurfHeaps$Round", "lookForStair", "(I)V"⟩, 6)) 52 (by decide +kernel)), wd_6, wd_811, by decide +kernel, by decide +kernel, by decide +kernel⟩
theorem yyX2_stepsAheadOfRing : hpY yX2_stepsAheadOfRing cX2_stepsAheadOfRing 4 (some .int) 2 2 := ⟨⟨TX2, 6, tyX2, O2⟩, wd_806, (hpT_sel (q := (⟨"TurfHeaps$Round", "stepsAheadOfRing", "(LTurfHeaps$Row;I)I"⟩, 6)) 51 (by decide +kernel)), wd_6, wd_807, by decide +kernel, by decide +kernel, by decide +kernel⟩
theorem yyX2_turnFrom : hpY yX2_turnFrom cX2_turnFrom 6 (some .int) 2 2 := ⟨⟨TX2, 6, tyX2, O2⟩, wd_799, (hpT_sel (q := (⟨"TurfHeaps$Round", "turnFrom", "(LTurfHeaps$Row;I)I"⟩, 6)) 50 (by decide +kernel)), wd_6, wd_800, by decide +kernel, by decide +kernel, by decide +kernel⟩
theorem yyX3_alike : hpY yX3_alike cX3_alike 3 (some .boolean) 1 3 := ⟨⟨TX3, 5, tyX3, O3⟩, wd_724, (hpT_sel (q := (⟨"TurfHeaps$Row", "alike", "(LTurfHeaps$Row;)Z"⟩, 5)) 42 (by decide +kernel)), wd_5, wd_725, by decide +kernel, by decide +kernel, by decide +kernel⟩
theorem yyX3_become : hpY yX3_become cX3_become 2 none 1 3 := ⟨⟨TX3, 5, tyX3, O3⟩, wd_619, (hpT_sel (q := (⟨"TurfHeaps$Row", "become", "(LTurfHeaps$Row;)V"⟩, 5)) 29 (by decide +kernel)), wd_5, wd_620, by decide +kernel, by decide +kernel, by decide +kernel⟩
theorem yyX3_clear : hpY yX3_clear cX3_clear 1 none 0 3 := ⟨⟨TX3, 5, tyX3, O3⟩, wd_594, (hpT_sel (q := (⟨"TurfHeaps$Row", "clear", "()V"⟩, 5)) 23 (by decide +kernel)), wd_5, wd_595, by decide +kernel, by decide +kernel, by decide +kernel⟩
theorem yyX3_dropHighest : hpY yX3_dropHighest cX3_dropHighest 2 (some .int) 0 3 := ⟨⟨TX3, 5, tyX3, O3⟩, wd_611, (hpT_sel (q := (⟨"TurfHeaps$Row", "dropHighest", "()I"⟩, 5)) 27 (by decide +kernel)), wd_5, wd_612, by decide +kernel, by decide +kernel, by decide +kernel⟩
theorem yyX3_goneBy : hpY yX3_goneBy cX3_goneBy 4 (some .int) 1 3 := ⟨⟨TX3, 5, tyX3, O3⟩, wd_701, (hpT_sel (q := (⟨"TurfHeaps$Row", "goneBy", "(I)I"⟩, 5)) 40 (by decide +kernel)), wd_5, wd_702, by decide +kernel, by decide +kernel, by decide +kernel⟩
theorem yyX3_heapAt : hpY yX3_heapAt cX3_heapAt 4 (some .int) 1 3 := ⟨⟨TX3, 5, tyX3, O3⟩, wd_641, (hpT_sel (q := (⟨"TurfHeaps$Row", "heapAt", "(I)I"⟩, 5)) 32 (by decide +kernel)), wd_5, wd_642, by decide +kernel, by decide +kernel, by decide +kernel⟩
theorem yyX3_heapsFrom : hpY yX3_heapsFrom cX3_heapsFrom 4 (some .int) 1 3 := ⟨⟨TX3, 5, tyX3, O3⟩, wd_759, (hpT_sel (q := (⟨"TurfHeaps$Row", "heapsFrom", "(I)I"⟩, 5)) 45 (by decide +kernel)), wd_5, wd_760, by decide +kernel, by decide +kernel, by decide +kernel⟩
theorem yyX3_heapsOf : hpY yX3_heapsOf cX3_heapsOf 3 (some .int) 1 3 := ⟨⟨TX3, 5, tyX3, O3⟩, wd_653, (hpT_sel (q := (⟨"TurfHeaps$Row", "heapsOf", "(I)I"⟩, 5)) 33 (by decide +kernel)), wd_5, wd_654, by decide +kernel, by decide +kernel, by decide +kernel⟩
theorem yyX3_highest : hpY yX3_highest cX3_highest 1 (some .int) 0 3 := ⟨⟨TX3, 5, tyX3, O3⟩, wd_665, (hpT_sel (q := (⟨"TurfHeaps$Row", "highest", "()I"⟩, 5)) 34 (by decide +kernel)), wd_5, wd_666, by decide +kernel, by decide +kernel, by decide +kernel⟩
theorem yyX3_isStair : hpY yX3_isStair cX3_isStair 1 (some .boolean) 0 3 := ⟨⟨TX3, 5, tyX3, O3⟩, wd_740, (hpT_sel (q := (⟨"TurfHeaps$Row", "isStair", "()Z"⟩, 5)) 43 (by decide +kernel)), wd_5, wd_741, by decide +kernel, by decide +kernel, by decide +kernel⟩
theorem yyX3_lay : hpY yX3_lay cX3_lay 3 none 1 3 := ⟨⟨TX3, 5, tyX3, O3⟩, wd_598, (hpT_sel (q := (⟨"TurfHeaps$Row", "lay", "(I)V"⟩, 5)) 24 (by decide +kernel)), wd_5, wd_599, by decide +kernel, by decide +kernel, by decide +kernel⟩
theorem yyX3_lower : hpY yX3_lower cX3_lower 8 (some .int) 1 3 := ⟨⟨TX3, 5, tyX3, O3⟩, wd_628, (hpT_sel (q := (⟨"TurfHeaps$Row", "lower", "(I)I"⟩, 5)) 31 (by decide +kernel)), wd_5, wd_629, by decide +kernel, by decide +kernel, by decide +kernel⟩
theorem yyX3_lowest : hpY yX3_lowest cX3_lowest 1 (some .int) 0 3 := ⟨⟨TX3, 5, tyX3, O3⟩, wd_669, (hpT_sel (q := (⟨"TurfHeaps$Row", "lowest", "()I"⟩, 5)) 35 (by decide +kernel)), wd_5, wd_670, by decide +kernel, by decide +kernel, by decide +kernel⟩
theorem yyX3_nimSum : hpY yX3_nimSum cX3_nimSum 4 (some .int) 1 3 := ⟨⟨TX3, 5, tyX3, O3⟩, wd_1098, (hpT_sel (q := (⟨"TurfHeaps$Row", "nimSum", "(I)I"⟩, 5)) 87 (by decide +kernel)), wd_5, wd_1099, by decide +kernel, by decide +kernel, by decide +kernel⟩
theorem yyX3_oddHeaps : hpY yX3_oddHeaps cX3_oddHeaps 3 (some .int) 0 3 := ⟨⟨TX3, 5, tyX3, O3⟩, wd_677, (hpT_sel (q := (⟨"TurfHeaps$Row", "oddHeaps", "()I"⟩, 5)) 36 (by decide +kernel)), wd_5, wd_678, by decide +kernel, by decide +kernel, by decide +kernel⟩
theorem yyX3_offEach : hpYS yX3_offEach cX3_offEach 2 (some .int) 2 := ⟨wd_631, wd_5, wd_632, by decide +kernel, by decide +kernel, by decide +kernel⟩
theorem yyX3_sameTurnedOver : hpY yX3_sameTurnedOver cX3_sameTurnedOver 2 (some .boolean) 0 3 := ⟨⟨TX3, 5, tyX3, O3⟩, wd_772, (hpT_sel (q := (⟨"TurfHeaps$Row", "sameTurnedOver", "()Z"⟩, 5)) 46 (by decide +kernel)), wd_5, wd_773, by decide +kernel, by decide +kernel, by decide +kernel⟩
theorem yyX3_squareSide : hpY yX3_squareSide cX3_squareSide 2 (some .int) 0 3 := ⟨⟨TX3, 5, tyX3, O3⟩, wd_755, (hpT_sel (q := (⟨"TurfHeaps$Row", "squareSide", "()I"⟩, 5)) 44 (by decide +kernel)), wd_5, wd_756, by decide +kernel, by decide +kernel, by decide +kernel⟩
theorem yyX3_standsTo : hpY yX3_standsTo cX3_standsTo 7 (some .int) 1 3 := ⟨⟨TX3, 5, tyX3, O3⟩, wd_782, (hpT_sel (q := (⟨"TurfHeaps$Row", "standsTo", "(LTurfHeaps$Row;)I"⟩, 5)) 47 (by decide +kernel)), wd_5, wd_783, by decide +kernel, by decide +kernel, by decide +kernel⟩
theorem yyX3_step : hpY yX3_step cX3_step 3 none 1 3 := ⟨⟨TX3, 5, tyX3, O3⟩, wd_623, (hpT_sel (q := (⟨"TurfHeaps$Row", "step", "(I)V"⟩, 5)) 30 (by decide +kernel)), wd_5, wd_624, by decide +kernel, by decide +kernel, by decide +kernel⟩
theorem yyX3_takenBy : hpY yX3_takenBy cX3_takenBy 4 (some .int) 1 3 := ⟨⟨TX3, 5, tyX3, O3⟩, wd_689, (hpT_sel (q := (⟨"TurfHeaps$Row", "takenBy", "(I)I"⟩, 5)) 38 (by decide +kernel)), wd_5, wd_690, by decide +kernel, by decide +kernel, by decide +kernel⟩
theorem yyX3_touched : hpY yX3_touched cX3_touched 3 (some .int) 2 3 := ⟨⟨TX3, 5, tyX3, O3⟩, wd_693, (hpT_sel (q := (⟨"TurfHeaps$Row", "touched", "(II)I"⟩, 5)) 39 (by decide +kernel)), wd_5, wd_694, by decide +kernel, by decide +kernel, by decide +kernel⟩
theorem yyX3_winningTake : hpY yX3_winningTake cX3_winningTake 7 (some .int) 2 3 := ⟨⟨TX3, 5, tyX3, O3⟩, wd_1106, (hpT_sel (q := (⟨"TurfHeaps$Row", "winningTake", "(II)I"⟩, 5)) 88 (by decide +kernel)), wd_5, wd_1107, by decide +kernel, by decide +kernel, by decide +kernel⟩
theorem yyX4_arrive : hpY yX4_arrive cX4_arrive 6 none 2 4 := ⟨⟨TX4, 9, tyX4, O4⟩, wd_603, (hpT_sel (q := (⟨"TurfHeaps$Season", "arrive", "(LTurfHeaps$Moor;I)V"⟩, 9)) 25 (by decide +kernel)), wd_4, wd_604, by decide +kernel, by decide +kernel, by decide +kernel⟩
theorem yyX4_asTold : hpY yX4_asTold cX4_asTold 2 none 1 4 := ⟨⟨TX4, 9, tyX4, O4⟩, wd_582, (hpT_sel (q := (⟨"TurfHeaps$Season", "asTold", "(LTurfHeaps$Moor;)V"⟩, 9)) 20 (by decide +kernel)), wd_4, wd_583, by decide +kernel, by decide +kernel, by decide +kernel⟩
theorem yyX4_at : hpY yX4_at cX4_at 2 (some (.object "TurfHeaps$Row")) 1 4 := ⟨⟨TX4, 9, tyX4, O4⟩, wd_607, (hpT_sel (q := (⟨"TurfHeaps$Season", "at", "(I)LTurfHeaps$Row;"⟩, 9)) 26 (by decide +kernel)), wd_4, wd_608, by decide +kernel, by decide +kernel, by decide +kernel⟩
theorem yyX4_begin : hpY yX4_begin cX4_begin 4 none 1 4 := ⟨⟨TX4, 9, tyX4, O4⟩, wd_590, (hpT_sel (q := (⟨"TurfHeaps$Season", "begin", "(LTurfHeaps$Moor;)V"⟩, 9)) 22 (by decide +kernel)), wd_4, wd_591, by decide +kernel, by decide +kernel, by decide +kernel⟩
theorem yyX4_next : hpY yX4_next cX4_next 4 none 2 4 := ⟨⟨TX4, 9, tyX4, O4⟩, wd_615, (hpT_sel (q := (⟨"TurfHeaps$Season", "next", "(LTurfHeaps$Moor;I)V"⟩, 9)) 28 (by decide +kernel)), wd_4, wd_616, by decide +kernel, by decide +kernel, by decide +kernel⟩
theorem yyX4_pass : hpY yX4_pass cX4_pass 3 none 1 4 := ⟨⟨TX4, 9, tyX4, O4⟩, wd_586, (hpT_sel (q := (⟨"TurfHeaps$Season", "pass", "(LTurfHeaps$Moor;)V"⟩, 9)) 21 (by decide +kernel)), wd_4, wd_587, by decide +kernel, by decide +kernel, by decide +kernel⟩
theorem yyX5_bestDay : hpY yX5_bestDay cX5_bestDay 6 (some .int) 1 5 := ⟨⟨TX5, 3, tyX5, O5⟩, wd_1026, (hpT_sel (q := (⟨"TurfHeaps$Seen", "bestDay", "(I)I"⟩, 3)) 81 (by decide +kernel)), wd_8, wd_1027, by decide +kernel, by decide +kernel, by decide +kernel⟩
theorem yyX5_clear : hpY yX5_clear cX5_clear 1 none 0 5 := ⟨⟨TX5, 3, tyX5, O5⟩, wd_991, (hpT_sel (q := (⟨"TurfHeaps$Seen", "clear", "()V"⟩, 3)) 76 (by decide +kernel)), wd_8, wd_992, by decide +kernel, by decide +kernel, by decide +kernel⟩
theorem yyX5_highest : hpY yX5_highest cX5_highest 1 (some .int) 0 5 := ⟨⟨TX5, 3, tyX5, O5⟩, wd_1018, (hpT_sel (q := (⟨"TurfHeaps$Seen", "highest", "()I"⟩, 3)) 80 (by decide +kernel)), wd_8, wd_1019, by decide +kernel, by decide +kernel, by decide +kernel⟩
theorem yyX5_keep : hpY yX5_keep cX5_keep 4 none 2 5 := ⟨⟨TX5, 3, tyX5, O5⟩, wd_1001, (hpT_sel (q := (⟨"TurfHeaps$Seen", "keep", "(ILTurfHeaps$Season;)V"⟩, 3)) 78 (by decide +kernel)), wd_8, wd_1002, by decide +kernel, by decide +kernel, by decide +kernel⟩
theorem yyX5_leftAtWorst : hpY yX5_leftAtWorst cX5_leftAtWorst 3 (some .int) 1 5 := ⟨⟨TX5, 3, tyX5, O5⟩, wd_1039, (hpT_sel (q := (⟨"TurfHeaps$Seen", "leftAtWorst", "(I)I"⟩, 3)) 83 (by decide +kernel)), wd_8, wd_1040, by decide +kernel, by decide +kernel, by decide +kernel⟩
theorem yyX5_lowest : hpY yX5_lowest cX5_lowest 1 (some .int) 0 5 := ⟨⟨TX5, 3, tyX5, O5⟩, wd_1010, (hpT_sel (q := (⟨"TurfHeaps$Seen", "lowest", "()I"⟩, 3)) 79 (by decide +kernel)), wd_8, wd_1011, by decide +kernel, by decide +kernel, by decide +kernel⟩
theorem yyX5_worstOf : hpY yX5_worstOf cX5_worstOf 6 (some .int) 1 5 := ⟨⟨TX5, 3, tyX5, O5⟩, wd_1030, (hpT_sel (q := (⟨"TurfHeaps$Seen", "worstOf", "(I)I"⟩, 3)) 82 (by decide +kernel)), wd_8, wd_1031, by decide +kernel, by decide +kernel, by decide +kernel⟩
theorem yyX6_fillSmall : hpY yX6_fillSmall cX6_fillSmall 3 (some .boolean) 1 6 := ⟨⟨TX6, 4, tyX6, O6⟩, wd_925, (hpT_sel (q := (⟨"TurfHeaps$Slot", "fillSmall", "(LTurfHeaps$Row;)Z"⟩, 4)) 66 (by decide +kernel)), wd_9, wd_926, by decide +kernel, by decide +kernel, by decide +kernel⟩
theorem yyX6_isOfThrees : hpY yX6_isOfThrees cX6_isOfThrees 4 (some .boolean) 1 6 := ⟨⟨TX6, 4, tyX6, O6⟩, wd_983, (hpT_sel (q := (⟨"TurfHeaps$Slot", "isOfThrees", "(I)Z"⟩, 4)) 74 (by decide +kernel)), wd_9, wd_984, by decide +kernel, by decide +kernel, by decide +kernel⟩
theorem yyX6_lay : hpY yX6_lay cX6_lay 4 none 2 6 := ⟨⟨TX6, 4, tyX6, O6⟩, wd_1233, (hpT_sel (q := (⟨"TurfHeaps$Slot", "lay", "(II)V"⟩, 4)) 98 (by decide +kernel)), wd_9, wd_1234, by decide +kernel, by decide +kernel, by decide +kernel⟩
theorem yyX6_reaches : hpY yX6_reaches cX6_reaches 3 (some .boolean) 2 6 := ⟨⟨TX6, 4, tyX6, O6⟩, wd_1248, (hpT_sel (q := (⟨"TurfHeaps$Slot", "reaches", "(II)Z"⟩, 4)) 99 (by decide +kernel)), wd_9, wd_1249, by decide +kernel, by decide +kernel, by decide +kernel⟩
theorem yyX6_tellsOf : hpY yX6_tellsOf cX6_tellsOf 4 (some .boolean) 1 6 := ⟨⟨TX6, 4, tyX6, O6⟩, wd_995, (hpT_sel (q := (⟨"TurfHeaps$Slot", "tellsOf", "(LTurfHeaps$Season;)Z"⟩, 4)) 77 (by decide +kernel)), wd_9, wd_996, by decide +kernel, by decide +kernel, by decide +kernel⟩
theorem yyX7_expect : hpY yX7_expect cX7_expect 2 none 1 7 := ⟨⟨TX7, 7, tyX7, O7⟩, wd_498, (hpT_sel (q := (⟨"TurfHeaps$Tape", "expect", "(Z)V"⟩, 7)) 7 (by decide +kernel)), wd_2, wd_499, by decide +kernel, by decide +kernel, by decide +kernel⟩
theorem yyX7_expectNumber : hpY yX7_expectNumber cX7_expectNumber 4 (some .int) 2 7 := ⟨⟨TX7, 7, tyX7, O7⟩, wd_507, (hpT_sel (q := (⟨"TurfHeaps$Tape", "expectNumber", "(II)I"⟩, 7)) 9 (by decide +kernel)), wd_2, wd_508, by decide +kernel, by decide +kernel, by decide +kernel⟩
theorem yyX7_fail : hpY yX7_fail cX7_fail 2 none 1 7 := ⟨⟨TX7, 7, tyX7, O7⟩, wd_502, (hpT_sel (q := (⟨"TurfHeaps$Tape", "fail", "(I)V"⟩, 7)) 8 (by decide +kernel)), wd_2, wd_503, by decide +kernel, by decide +kernel, by decide +kernel⟩
theorem yyX7_isBlank : hpYS yX7_isBlank cX7_isBlank 1 (some .boolean) 1 := ⟨wd_427, wd_2, wd_428, by decide +kernel, by decide +kernel, by decide +kernel⟩
theorem yyX7_isDigit : hpYS yX7_isDigit cX7_isDigit 1 (some .boolean) 1 := ⟨wd_433, wd_2, wd_434, by decide +kernel, by decide +kernel, by decide +kernel⟩
theorem yyX7_isLetter : hpYS yX7_isLetter cX7_isLetter 1 (some .boolean) 1 := ⟨wd_430, wd_2, wd_431, by decide +kernel, by decide +kernel, by decide +kernel⟩
theorem yyX7_isWord : hpY yX7_isWord cX7_isWord 3 (some .boolean) 1 7 := ⟨⟨TX7, 7, tyX7, O7⟩, wd_446, (hpT_sel (q := (⟨"TurfHeaps$Tape", "isWord", "(Ljava/lang/String;)Z"⟩, 7)) 6 (by decide +kernel)), wd_2, wd_447, by decide +kernel, by decide +kernel, by decide +kernel⟩
theorem yyX7_nextToken : hpY yX7_nextToken cX7_nextToken 2 none 0 7 := ⟨⟨TX7, 7, tyX7, O7⟩, wd_424, (hpT_sel (q := (⟨"TurfHeaps$Tape", "nextToken", "()V"⟩, 7)) 3 (by decide +kernel)), wd_2, wd_425, by decide +kernel, by decide +kernel, by decide +kernel⟩
theorem yyX7_number : hpY yX7_number cX7_number 3 (some .int) 0 7 := ⟨⟨TX7, 7, tyX7, O7⟩, wd_511, (hpT_sel (q := (⟨"TurfHeaps$Tape", "number", "()I"⟩, 7)) 10 (by decide +kernel)), wd_2, wd_512, by decide +kernel, by decide +kernel, by decide +kernel⟩
theorem yyX7_put : hpY yX7_put cX7_put 3 none 1 7 := ⟨⟨TX7, 7, tyX7, O7⟩, wd_404, (hpT_sel (q := (⟨"TurfHeaps$Tape", "put", "(I)V"⟩, 7)) 0 (by decide +kernel)), wd_2, wd_405, by decide +kernel, by decide +kernel, by decide +kernel⟩
theorem yyX7_readCart : hpY yX7_readCart cX7_readCart 2 none 1 7 := ⟨⟨TX7, 7, tyX7, O7⟩, wd_527, (hpT_sel (q := (⟨"TurfHeaps$Tape", "readCart", "(LTurfHeaps$Moor;)V"⟩, 7)) 12 (by decide +kernel)), wd_2, wd_528, by decide +kernel, by decide +kernel, by decide +kernel⟩
theorem yyX7_readFirst : hpY yX7_readFirst cX7_readFirst 2 none 1 7 := ⟨⟨TX7, 7, tyX7, O7⟩, wd_441, (hpT_sel (q := (⟨"TurfHeaps$Tape", "readFirst", "(LTurfHeaps$Moor;)V"⟩, 7)) 5 (by decide +kernel)), wd_2, wd_442, by decide +kernel, by decide +kernel, by decide +kernel⟩
theorem yyX7_readHeap : hpY yX7_readHeap cX7_readHeap 2 none 1 7 := ⟨⟨TX7, 7, tyX7, O7⟩, wd_521, (hpT_sel (q := (⟨"TurfHeaps$Tape", "readHeap", "(LTurfHeaps$Moor;)V"⟩, 7)) 11 (by decide +kernel)), wd_2, wd_522, by decide +kernel, by decide +kernel, by decide +kernel⟩
theorem yyX7_readInto : hpY yX7_readInto cX7_readInto 3 (some .boolean) 1 7 := ⟨⟨TX7, 7, tyX7, O7⟩, wd_416, (hpT_sel (q := (⟨"TurfHeaps$Tape", "readInto", "(LTurfHeaps$Moor;)Z"⟩, 7)) 1 (by decide +kernel)), wd_2, wd_417, by decide +kernel, by decide +kernel, by decide +kernel⟩
theorem yyX7_readLine : hpY yX7_readLine cX7_readLine 2 none 1 7 := ⟨⟨TX7, 7, tyX7, O7⟩, wd_437, (hpT_sel (q := (⟨"TurfHeaps$Tape", "readLine", "(LTurfHeaps$Moor;)V"⟩, 7)) 4 (by decide +kernel)), wd_2, wd_438, by decide +kernel, by decide +kernel, by decide +kernel⟩
theorem yyX8_act : hpY yX8_act cX8_act 3 (some .int) 2 8 := ⟨⟨TX8, 16, tyX8, O8⟩, wd_1172, (hpT_sel (q := (⟨"TurfHeaps", "act", "(II)I"⟩, 16)) 94 (by decide +kernel)), wd_1, wd_1173, by decide +kernel, by decide +kernel, by decide +kernel⟩
theorem yyX8_asNumber : hpYS yX8_asNumber cX8_asNumber 1 (some .int) 1 := ⟨wd_743, wd_1, wd_744, by decide +kernel, by decide +kernel, by decide +kernel⟩
theorem yyX8_commonDivisor : hpYS yX8_commonDivisor cX8_commonDivisor 11 (some .long) 2 := ⟨wd_1090, wd_1, wd_1091, by decide +kernel, by decide +kernel, by decide +kernel⟩
theorem yyX8_countOf : hpYS yX8_countOf cX8_countOf 2 (some .int) 2 := ⟨wd_1156, wd_1, wd_1157, by decide +kernel, by decide +kernel, by decide +kernel⟩
theorem yyX8_cut : hpYS yX8_cut cX8_cut 3 (some .long) 2 := ⟨wd_1240, wd_1, wd_1241, by decide +kernel, by decide +kernel, by decide +kernel⟩
theorem yyX8_everyOf : hpY yX8_everyOf cX8_everyOf 2 (some (.object "TurfHeaps$Every")) 1 8 := ⟨⟨TX8, 16, tyX8, O8⟩, wd_842, (hpT_sel (q := (⟨"TurfHeaps", "everyOf", "(I)LTurfHeaps$Every;"⟩, 16)) 54 (by decide +kernel)), wd_1, wd_843, by decide +kernel, by decide +kernel, by decide +kernel⟩
theorem yyX8_factorial : hpYS yX8_factorial cX8_factorial 3 (some .int) 1 := ⟨wd_1081, wd_1, wd_1082, by decide +kernel, by decide +kernel, by decide +kernel⟩
theorem yyX8_firstLike : hpY yX8_firstLike cX8_firstLike 3 (some .int) 1 8 := ⟨⟨TX8, 16, tyX8, O8⟩, wd_720, (hpT_sel (q := (⟨"TurfHeaps", "firstLike", "(I)I"⟩, 16)) 41 (by decide +kernel)), wd_1, wd_721, by decide +kernel, by decide +kernel, by decide +kernel⟩
theorem yyX8_forget : hpY yX8_forget cX8_forget 1 none 0 8 := ⟨⟨TX8, 16, tyX8, O8⟩, wd_539, (hpT_sel (q := (⟨"TurfHeaps", "forget", "()V"⟩, 16)) 14 (by decide +kernel)), wd_1, wd_540, by decide +kernel, by decide +kernel, by decide +kernel⟩
theorem yyX8_fraction : hpYS yX8_fraction cX8_fraction 7 (some .long) 3 := ⟨wd_1084, wd_1, wd_1085, by decide +kernel, by decide +kernel, by decide +kernel⟩
theorem yyX8_gainOverOrders : hpY yX8_gainOverOrders cX8_gainOverOrders 7 (some .int) 1 8 := ⟨⟨TX8, 16, tyX8, O8⟩, wd_1072, (hpT_sel (q := (⟨"TurfHeaps", "gainOverOrders", "(I)I"⟩, 16)) 86 (by decide +kernel)), wd_1, wd_1073, by decide +kernel, by decide +kernel, by decide +kernel⟩
theorem yyX8_heapsAtLast : hpY yX8_heapsAtLast cX8_heapsAtLast 1 (some .int) 0 8 := ⟨⟨TX8, 16, tyX8, O8⟩, wd_955, (hpT_sel (q := (⟨"TurfHeaps", "heapsAtLast", "()I"⟩, 16)) 70 (by decide +kernel)), wd_1, wd_956, by decide +kernel, by decide +kernel, by decide +kernel⟩
theorem yyX8_heapsWithMore : hpY yX8_heapsWithMore cX8_heapsWithMore 3 (some .int) 2 8 := ⟨⟨TX8, 16, tyX8, O8⟩, wd_959, (hpT_sel (q := (⟨"TurfHeaps", "heapsWithMore", "(II)I"⟩, 16)) 71 (by decide +kernel)), wd_1, wd_960, by decide +kernel, by decide +kernel, by decide +kernel⟩
theorem yyX8_heapsWithSet : hpY yX8_heapsWithSet cX8_heapsWithSet 2 (some .int) 1 8 := ⟨⟨TX8, 16, tyX8, O8⟩, wd_971, (hpT_sel (q := (⟨"TurfHeaps", "heapsWithSet", "(I)I"⟩, 16)) 72 (by decide +kernel)), wd_1, wd_972, by decide +kernel, by decide +kernel, by decide +kernel⟩
theorem yyX8_heapsWithWet : hpY yX8_heapsWithWet cX8_heapsWithWet 2 (some .int) 1 8 := ⟨⟨TX8, 16, tyX8, O8⟩, wd_1201, (hpT_sel (q := (⟨"TurfHeaps", "heapsWithWet", "(I)I"⟩, 16)) 96 (by decide +kernel)), wd_1, wd_1202, by decide +kernel, by decide +kernel, by decide +kernel⟩
theorem yyX8_isCart : hpY yX8_isCart cX8_isCart 2 (some .boolean) 1 8 := ⟨⟨TX8, 16, tyX8, O8⟩, wd_559, (hpT_sel (q := (⟨"TurfHeaps", "isCart", "(I)Z"⟩, 16)) 16 (by decide +kernel)), wd_1, wd_560, by decide +kernel, by decide +kernel, by decide +kernel⟩
theorem yyX8_isChanceDay : hpY yX8_isChanceDay cX8_isChanceDay 2 (some .boolean) 1 8 := ⟨⟨TX8, 16, tyX8, O8⟩, wd_1137, (hpT_sel (q := (⟨"TurfHeaps", "isChanceDay", "(I)Z"⟩, 16)) 90 (by decide +kernel)), wd_1, wd_1138, by decide +kernel, by decide +kernel, by decide +kernel⟩
theorem yyX8_isDay : hpY yX8_isDay cX8_isDay 2 (some .boolean) 1 8 := ⟨⟨TX8, 16, tyX8, O8⟩, wd_570, (hpT_sel (q := (⟨"TurfHeaps", "isDay", "(I)Z"⟩, 16)) 17 (by decide +kernel)), wd_1, wd_571, by decide +kernel, by decide +kernel, by decide +kernel⟩
theorem yyX8_isDayAheadOfLast : hpY yX8_isDayAheadOfLast cX8_isDayAheadOfLast 2 (some .boolean) 1 8 := ⟨⟨TX8, 16, tyX8, O8⟩, wd_685, (hpT_sel (q := (⟨"TurfHeaps", "isDayAheadOfLast", "(I)Z"⟩, 16)) 37 (by decide +kernel)), wd_1, wd_686, by decide +kernel, by decide +kernel, by decide +kernel⟩
theorem yyX8_isOfAll : hpY yX8_isOfAll cX8_isOfAll 2 (some .boolean) 1 8 := ⟨⟨TX8, 16, tyX8, O8⟩, wd_838, (hpT_sel (q := (⟨"TurfHeaps", "isOfAll", "(I)Z"⟩, 16)) 53 (by decide +kernel)), wd_1, wd_839, by decide +kernel, by decide +kernel, by decide +kernel⟩
theorem yyX8_isSlot : hpYS yX8_isSlot cX8_isSlot 1 (some .boolean) 1 := ⟨wd_921, wd_1, wd_922, by decide +kernel, by decide +kernel, by decide +kernel⟩
theorem yyX8_isTold : hpY yX8_isTold cX8_isTold 2 (some .boolean) 1 8 := ⟨⟨TX8, 16, tyX8, O8⟩, wd_551, (hpT_sel (q := (⟨"TurfHeaps", "isTold", "(I)Z"⟩, 16)) 15 (by decide +kernel)), wd_1, wd_552, by decide +kernel, by decide +kernel, by decide +kernel⟩
theorem yyX8_isWhat : hpYS yX8_isWhat cX8_isWhat 1 (some .boolean) 1 := ⟨wd_562, wd_1, wd_563, by decide +kernel, by decide +kernel, by decide +kernel⟩
theorem yyX8_knowWorths : hpY yX8_knowWorths cX8_knowWorths 2 none 0 8 := ⟨⟨TX8, 16, tyX8, O8⟩, wd_1068, (hpT_sel (q := (⟨"TurfHeaps", "knowWorths", "()V"⟩, 16)) 85 (by decide +kernel)), wd_1, wd_1069, by decide +kernel, by decide +kernel, by decide +kernel⟩
theorem yyX8_lookAt : hpY yX8_lookAt cX8_lookAt 4 (some (.object "TurfHeaps$Seen")) 2 8 := ⟨⟨TX8, 16, tyX8, O8⟩, wd_987, (hpT_sel (q := (⟨"TurfHeaps", "lookAt", "(II)LTurfHeaps$Seen;"⟩, 16)) 75 (by decide +kernel)), wd_1, wd_988, by decide +kernel, by decide +kernel, by decide +kernel⟩
theorem yyX8_noMoor : hpY yX8_noMoor cX8_noMoor 1 (some .boolean) 0 8 := ⟨⟨TX8, 16, tyX8, O8⟩, wd_574, (hpT_sel (q := (⟨"TurfHeaps", "noMoor", "()Z"⟩, 16)) 18 (by decide +kernel)), wd_1, wd_575, by decide +kernel, by decide +kernel, by decide +kernel⟩
theorem yyX8_passByLaw : hpY yX8_passByLaw cX8_passByLaw 2 (some (.object "TurfHeaps$Row")) 1 8 := ⟨⟨TX8, 16, tyX8, O8⟩, wd_1048, (hpT_sel (q := (⟨"TurfHeaps", "passByLaw", "(I)LTurfHeaps$Row;"⟩, 16)) 84 (by decide +kernel)), wd_1, wd_1049, by decide +kernel, by decide +kernel, by decide +kernel⟩
theorem yyX8_passChoice : hpY yX8_passChoice cX8_passChoice 5 none 3 8 := ⟨⟨TX8, 16, tyX8, O8⟩, wd_1152, (hpT_sel (q := (⟨"TurfHeaps", "passChoice", "(III)V"⟩, 16)) 93 (by decide +kernel)), wd_1, wd_1153, by decide +kernel, by decide +kernel, by decide +kernel⟩
theorem yyX8_passLate : hpY yX8_passLate cX8_passLate 5 (some (.object "TurfHeaps$Row")) 4 8 := ⟨⟨TX8, 16, tyX8, O8⟩, wd_1119, (hpT_sel (q := (⟨"TurfHeaps", "passLate", "(IIII)LTurfHeaps$Row;"⟩, 16)) 89 (by decide +kernel)), wd_1, wd_1120, by decide +kernel, by decide +kernel, by decide +kernel⟩
theorem yyX8_payOfFirst : hpYS yX8_payOfFirst cX8_payOfFirst 2 (some .int) 2 := ⟨wd_1122, wd_1, wd_1123, by decide +kernel, by decide +kernel, by decide +kernel⟩
theorem yyX8_payOfSecond : hpYS yX8_payOfSecond cX8_payOfSecond 2 (some .int) 2 := ⟨wd_1125, wd_1, wd_1126, by decide +kernel, by decide +kernel, by decide +kernel⟩
theorem yyX8_powerOfTen : hpYS yX8_powerOfTen cX8_powerOfTen 4 (some .long) 1 := ⟨wd_1159, wd_1, wd_1160, by decide +kernel, by decide +kernel, by decide +kernel⟩
theorem yyX8_roundOf : hpY yX8_roundOf cX8_roundOf 2 (some (.object "TurfHeaps$Round")) 1 8 := ⟨⟨TX8, 16, tyX8, O8⟩, wd_791, (hpT_sel (q := (⟨"TurfHeaps", "roundOf", "(I)LTurfHeaps$Round;"⟩, 16)) 48 (by decide +kernel)), wd_1, wd_792, by decide +kernel, by decide +kernel, by decide +kernel⟩
theorem yyX8_rowOfDay : hpY yX8_rowOfDay cX8_rowOfDay 2 (some (.object "TurfHeaps$Row")) 1 8 := ⟨⟨TX8, 16, tyX8, O8⟩, wd_578, (hpT_sel (q := (⟨"TurfHeaps", "rowOfDay", "(I)LTurfHeaps$Row;"⟩, 16)) 19 (by decide +kernel)), wd_1, wd_579, by decide +kernel, by decide +kernel, by decide +kernel⟩
theorem yyX8_seenFault : hpY yX8_seenFault cX8_seenFault 3 (some .int) 2 8 := ⟨⟨TX8, 16, tyX8, O8⟩, wd_979, (hpT_sel (q := (⟨"TurfHeaps", "seenFault", "(IZ)I"⟩, 16)) 73 (by decide +kernel)), wd_1, wd_980, by decide +kernel, by decide +kernel, by decide +kernel⟩
theorem yyX8_slotsWithRow : hpY yX8_slotsWithRow cX8_slotsWithRow 3 (some .int) 0 8 := ⟨⟨TX8, 16, tyX8, O8⟩, wd_1217, (hpT_sel (q := (⟨"TurfHeaps", "slotsWithRow", "()I"⟩, 16)) 97 (by decide +kernel)), wd_1, wd_1218, by decide +kernel, by decide +kernel, by decide +kernel⟩
theorem yyX8_smallRowFault : hpY yX8_smallRowFault cX8_smallRowFault 2 (some .int) 1 8 := ⟨⟨TX8, 16, tyX8, O8⟩, wd_918, (hpT_sel (q := (⟨"TurfHeaps", "smallRowFault", "(I)I"⟩, 16)) 65 (by decide +kernel)), wd_1, wd_919, by decide +kernel, by decide +kernel, by decide +kernel⟩
theorem yyX8_weighHeaps : hpY yX8_weighHeaps cX8_weighHeaps 10 (some .long) 2 8 := ⟨⟨TX8, 16, tyX8, O8⟩, wd_1142, (hpT_sel (q := (⟨"TurfHeaps", "weighHeaps", "(II)J"⟩, 16)) 91 (by decide +kernel)), wd_1, wd_1143, by decide +kernel, by decide +kernel, by decide +kernel⟩
theorem yyX8_weightOf : hpY yX8_weightOf cX8_weightOf 6 (some .long) 2 8 := ⟨⟨TX8, 16, tyX8, O8⟩, wd_1148, (hpT_sel (q := (⟨"TurfHeaps", "weightOf", "(II)J"⟩, 16)) 92 (by decide +kernel)), wd_1, wd_1149, by decide +kernel, by decide +kernel, by decide +kernel⟩
theorem yyX8_wetDays : hpY yX8_wetDays cX8_wetDays 7 (some .int) 1 8 := ⟨⟨TX8, 16, tyX8, O8⟩, wd_1193, (hpT_sel (q := (⟨"TurfHeaps", "wetDays", "(J)I"⟩, 16)) 95 (by decide +kernel)), wd_1, wd_1194, by decide +kernel, by decide +kernel, by decide +kernel⟩
