/-! ===== the base: a method's meaning as a function with answers 'some' and 'none', and how it is walked ===== -/
def q_gd {α : Type} (c : Prop) [Decidable c] (k : Option α) : Option α := if c then k else none
def q_br {α : Type} (c : Prop) [Decidable c] (x y : Option α) : Option α := if c then x else y
def q_bd {α β : Type} (x : Option α) (k : α → Option β) : Option β := match x with
  | none => none
  | some a => k a
def q_lt {α β : Type} (x : α) (k : α → Option β) : Option β := k x
abbrev q_in (i : Int32) (n : Nat) : Prop := ¬ (i < 0 ∨ n ≤ i.toNatClampNeg)
theorem q_gdi {α : Type} {c : Prop} {dc : Decidable c} {k : Option α} {r : α} (h : q_gd c k = some r) : c ∧ k = some r := by
  unfold q_gd at h
  split at h
  · exact ⟨by assumption, h⟩
  · cases h
theorem q_brp {α : Type} {c : Prop} {dc : Decidable c} {x y : Option α} {r : α} (hc : c) (h : q_br c x y = some r) : x = some r := by
  unfold q_br at h
  rwa [if_pos hc] at h
theorem q_brn {α : Type} {c : Prop} {dc : Decidable c} {x y : Option α} {r : α} (hc : ¬ c) (h : q_br c x y = some r) : y = some r := by
  unfold q_br at h
  rwa [if_neg hc] at h
theorem q_bdi {α β : Type} {x : Option α} {k : α → Option β} {r : β} (h : q_bd x k = some r) : ∃ a, x = some a ∧ k a = some r := by
  cases x with
  | none => cases h
  | some a => exact ⟨a, rfl, h⟩
theorem q_lti {α β : Type} {x y : α} {k : α → Option β} {r : β} (e : y = x) (h : q_lt x k = some r) : k y = some r := by
  subst e
  exact h
/-! the words -/
abbrev mws (y : MethodName) (b : ByteArray) (n : Nat) (r : Option FieldType) : List Cond := Cond.code y b n r :: lw_all
theorem gi_B {big : List Cond} {y : MethodName} {b : ByteArray} {n : Nat} {r : Option FieldType} (hb : ∀ w ∈ lw_all, w ∈ big) (h5 : Cond.code y b n r ∈ lw_all) : GoodIn big (mws y b n r) := by
  intro w hw
  have h : w ∈ lw_all := (List.mem_cons.mp hw).elim (fun e => by rw [e]; exact h5) id
  exact ⟨hb w h, good_of_word (lwg h)⟩
theorem gi_V {big : List Cond} {own C : String} {idx : Nat} {y : MethodName} {b : ByteArray} {n : Nat} {r : Option FieldType} (hb : ∀ w ∈ lw_all, w ∈ big) (h1 : Cond.methodLink own idx y ∈ lw_all) (h2 : Cond.instanceMethod y ∈ lw_all) (h3 : Cond.selects C y y ∈ lw_all) (h4 : Cond.initialized C ∈ lw_all) (h5 : Cond.code y b n r ∈ lw_all) : GoodIn big (wsV own idx C y (mws y b n r)) := by
  intro w hw
  rcases List.mem_append.mp hw with h | h
  · have h : w ∈ lw_all := by
      simp only [List.mem_cons, List.not_mem_nil, or_false] at h
      rcases h with rfl | rfl | rfl | rfl
      · exact h1
      · exact h2
      · exact h3
      · exact h4
    exact ⟨hb w h, good_of_word (lwg h)⟩
  · exact gi_B hb h5 w h
theorem gi_S {big : List Cond} {own : String} {idx : Nat} {y : MethodName} {b : ByteArray} {n : Nat} {r : Option FieldType} (hb : ∀ w ∈ lw_all, w ∈ big) (h1 : Cond.methodLink own idx y ∈ lw_all) (h2 : Cond.static y ∈ lw_all) (h4 : Cond.initialized own ∈ lw_all) (h5 : Cond.code y b n r ∈ lw_all) : GoodIn big (wsS own idx y (mws y b n r)) := by
  intro w hw
  rcases List.mem_append.mp hw with h | h
  · have h : w ∈ lw_all := by
      simp only [List.mem_cons, List.not_mem_nil, or_false] at h
      rcases h with rfl | rfl | rfl
      · exact h1
      · exact h2
      · exact h4
    exact ⟨hb w h, good_of_word (lwg h)⟩
  · exact gi_B hb h5 w h
/-! the surroundings: what never changes while the law runs. E.1: the classes' numbers and slots; E.2: 0 where the run's own cells begin; 1 .. 7 the classes of arrays; 10 .. the static tables; 100 .. the enum's constants; 200 .. Strings, 300 .. their bytes; 400 .. the texts of throws -/
abbrev ET : Type := va_G × (Nat → Nat)
abbrev zA (E : ET) : Nat → Prop := fun q => E.2 0 ≤ q
abbrev tyL (E : ET) : List (ClassId × FieldType) := [(E.2 1, .int), (E.2 2, .char), (E.2 3, .byte), (E.2 4, .object "ValleyBells$Valley"), (E.2 5, .object "ValleyBells$Command")]
abbrev atL (E : ET) : List (String × ClassId) := [("[I", E.2 1), ("[C", E.2 2), ("[B", E.2 3), ("[LValleyBells$Valley;", E.2 4), ("[LValleyBells$Command;", E.2 5)]
def nwM : List (String × Nat × MethodName × String) := [(RX10, 9, yX9_init, RX10), (RX9, 11, yX6_init, RX10), (RX9, 20, yX1_init, RX10), (RX9, 27, yX7_init, RX10), (RX9, 34, yX3_init, RX10), (RX5, 22, yX9_init, RX10), (RX10, 28, yX8_init, RX10), (RX10, 35, yX2_init, RX10), (RX10, 42, yX6_init, RX10), (RX1, 32, yX10_isHerd, RX10), (RX1, 28, yX10_isWithin, RX10), (RX6, 22, yX10_isWithin, RX10), (RX6, 37, yX10_nearest, RX10), (RX6, 33, yX10_belongs, RX10), (RX6, 45, yX10_offset, RX10), (RX7, 31, yX10_isHerd, RX10), (RX7, 27, yX10_isWithin, RX10), (RX3, 28, yX10_isWithin, RX10), (RX1, 50, yX10_nearest, RX10), (RX1, 54, yX10_offset, RX10), (RX2, 24, yX10_isWithin, RX10), (RX2, 75, yX10_belongs, RX10), (RX8, 104, yX10_isWithin, RX10)]
def nwF : List (String × Nat × String × String × String × String) := [(RX10, 169, "ValleyBells$Key", "tonic", "I", RX10), (RX10, 172, "ValleyBells$Key", "isMinor", "Z", RX10), (RX10, 175, "ValleyBells$Key", "tolerance", "I", RX10), (RX10, 121, "ValleyBells$Bells", "herds", "[I", RX10), (RX10, 125, "ValleyBells$Bells", "pitches", "[I", RX10), (RX10, 112, "ValleyBells$Bells", "count", "I", RX10), (RX9, 120, "ValleyBells$Melodies", "lengths", "[I", RX10), (RX10, 201, "ValleyBells$Melodies", "lengths", "[I", RX10), (RX10, 216, "ValleyBells$Melodies", "entries", "[I", RX10), (RX2, 41, "ValleyBells$Cliffs", "delays", "[I", RX10), (RX10, 238, "ValleyBells$Cliffs", "delays", "[I", RX10), (RX2, 44, "ValleyBells$Cliffs", "transpositions", "[I", RX10), (RX10, 241, "ValleyBells$Cliffs", "transpositions", "[I", RX10), (RX2, 38, "ValleyBells$Cliffs", "count", "I", RX10), (RX10, 232, "ValleyBells$Cliffs", "count", "I", RX10), (RX10, 135, "ValleyBells$Valley", "key", "LValleyBells$Key;", RX10), (RX2, 57, "ValleyBells$Valley", "bells", "LValleyBells$Bells;", RX10), (RX10, 108, "ValleyBells$Valley", "bells", "LValleyBells$Bells;", RX10), (RX2, 47, "ValleyBells$Valley", "melodies", "LValleyBells$Melodies;", RX10), (RX10, 197, "ValleyBells$Valley", "melodies", "LValleyBells$Melodies;", RX10), (RX2, 32, "ValleyBells$Valley", "cliffs", "LValleyBells$Cliffs;", RX10), (RX10, 228, "ValleyBells$Valley", "cliffs", "LValleyBells$Cliffs;", RX10), (RX10, 364, "ValleyBells$History", "count", "I", RX10), (RX10, 323, "ValleyBells$Program", "count", "I", RX10), (RX10, 251, "ValleyBells$Chord", "notes", "[I", RX10), (RX10, 248, "ValleyBells$Chord", "size", "I", RX10), (RX2, 79, "ValleyBells", "CONSONANCES", "[I", RX10), (RX8, 61, "ValleyBells", "COMMANDS", "[LValleyBells$Command;", RX10), (RX8, 64, "ValleyBells$Command", "form", "Ljava/lang/String;", RX10)]
abbrev srL (E : ET) : List (String × Nat × String × Nat) := [(RX10, 378, "an index is out of range", E.2 400), (RX10, 380, "an argument is out of range", E.2 401), (RX10, 382, "the valley does not allow it", E.2 402), (RX10, 386, "no such bell", E.2 403), (RX10, 157, "no such rank", E.2 404), (RX10, 390, "there are no bells", E.2 405), (RX10, 184, "no such pitch class", E.2 406), (RX10, 396, "no such herd", E.2 407), (RX10, 210, "no such position", E.2 408), (RX10, 222, "no canon", E.2 409), (RX10, 401, "nothing sounds", E.2 410), (RX10, 299, "the text is not a program", E.2 411), (RX10, 317, "a command failed", E.2 412), (RX10, 326, "no failed command was stored", E.2 413), (RX10, 365, "no call can be undone", E.2 414), (RX10, 370, "no state was saved", E.2 415), (RX10, 286, "the text buffer is full", E.2 416), (RX10, 399, "no such cliff", E.2 417), (RX10, 324, "no error position was stored", E.2 418), (RL, 157, "key 7m;tolerance 9;entry 2 3;clear 1", E.2 212), (RL, 169, "key 7m;key 12M", E.2 213), (RL, 177, "remove 12", E.2 214), (RL, 179, "tx", E.2 215), (RL, 185, "to", E.2 216), (RL, 187, "toe", E.2 217), (RL, 189, "bell 0 600", E.2 218), (RL, 191, "key 1", E.2 219), (RL, 193, "tune 0", E.2 220), (RL, 195, "clx", E.2 221), (RL, 197, "", E.2 222), (RL, 199, "fell 0;", E.2 223), (RL, 201, "cliff 1+123", E.2 224), (RL, 203, "z", E.2 225), (RL, 225, "bell 0 6000;bell 1 6400;bell 1 6650;tone 0 0;tone 0 1", E.2 226)]
theorem mn0 : (RX10, 9, yX9_init, RX10) ∈ nwM := List.mem_of_getElem? (i := 0) rfl
theorem mn1 : (RX9, 11, yX6_init, RX10) ∈ nwM := List.mem_of_getElem? (i := 1) rfl
theorem mn2 : (RX9, 20, yX1_init, RX10) ∈ nwM := List.mem_of_getElem? (i := 2) rfl
theorem mn3 : (RX9, 27, yX7_init, RX10) ∈ nwM := List.mem_of_getElem? (i := 3) rfl
theorem mn4 : (RX9, 34, yX3_init, RX10) ∈ nwM := List.mem_of_getElem? (i := 4) rfl
theorem mn5 : (RX5, 22, yX9_init, RX10) ∈ nwM := List.mem_of_getElem? (i := 5) rfl
theorem mn6 : (RX10, 28, yX8_init, RX10) ∈ nwM := List.mem_of_getElem? (i := 6) rfl
theorem mn7 : (RX10, 35, yX2_init, RX10) ∈ nwM := List.mem_of_getElem? (i := 7) rfl
theorem mn8 : (RX10, 42, yX6_init, RX10) ∈ nwM := List.mem_of_getElem? (i := 8) rfl
theorem mn9 : (RX1, 32, yX10_isHerd, RX10) ∈ nwM := List.mem_of_getElem? (i := 9) rfl
theorem mn10 : (RX1, 28, yX10_isWithin, RX10) ∈ nwM := List.mem_of_getElem? (i := 10) rfl
theorem mn11 : (RX6, 22, yX10_isWithin, RX10) ∈ nwM := List.mem_of_getElem? (i := 11) rfl
theorem mn12 : (RX6, 37, yX10_nearest, RX10) ∈ nwM := List.mem_of_getElem? (i := 12) rfl
theorem mn13 : (RX6, 33, yX10_belongs, RX10) ∈ nwM := List.mem_of_getElem? (i := 13) rfl
theorem mn14 : (RX6, 45, yX10_offset, RX10) ∈ nwM := List.mem_of_getElem? (i := 14) rfl
theorem mn15 : (RX7, 31, yX10_isHerd, RX10) ∈ nwM := List.mem_of_getElem? (i := 15) rfl
theorem mn16 : (RX7, 27, yX10_isWithin, RX10) ∈ nwM := List.mem_of_getElem? (i := 16) rfl
theorem mn17 : (RX3, 28, yX10_isWithin, RX10) ∈ nwM := List.mem_of_getElem? (i := 17) rfl
theorem mn18 : (RX1, 50, yX10_nearest, RX10) ∈ nwM := List.mem_of_getElem? (i := 18) rfl
theorem mn19 : (RX1, 54, yX10_offset, RX10) ∈ nwM := List.mem_of_getElem? (i := 19) rfl
theorem mn20 : (RX2, 24, yX10_isWithin, RX10) ∈ nwM := List.mem_of_getElem? (i := 20) rfl
theorem mn21 : (RX2, 75, yX10_belongs, RX10) ∈ nwM := List.mem_of_getElem? (i := 21) rfl
theorem mn22 : (RX8, 104, yX10_isWithin, RX10) ∈ nwM := List.mem_of_getElem? (i := 22) rfl
theorem mf0 : (RX10, 169, "ValleyBells$Key", "tonic", "I", RX10) ∈ nwF := List.mem_of_getElem? (i := 0) rfl
theorem mf1 : (RX10, 172, "ValleyBells$Key", "isMinor", "Z", RX10) ∈ nwF := List.mem_of_getElem? (i := 1) rfl
theorem mf2 : (RX10, 175, "ValleyBells$Key", "tolerance", "I", RX10) ∈ nwF := List.mem_of_getElem? (i := 2) rfl
theorem mf3 : (RX10, 121, "ValleyBells$Bells", "herds", "[I", RX10) ∈ nwF := List.mem_of_getElem? (i := 3) rfl
theorem mf4 : (RX10, 125, "ValleyBells$Bells", "pitches", "[I", RX10) ∈ nwF := List.mem_of_getElem? (i := 4) rfl
theorem mf5 : (RX10, 112, "ValleyBells$Bells", "count", "I", RX10) ∈ nwF := List.mem_of_getElem? (i := 5) rfl
theorem mf6 : (RX9, 120, "ValleyBells$Melodies", "lengths", "[I", RX10) ∈ nwF := List.mem_of_getElem? (i := 6) rfl
theorem mf7 : (RX10, 201, "ValleyBells$Melodies", "lengths", "[I", RX10) ∈ nwF := List.mem_of_getElem? (i := 7) rfl
theorem mf8 : (RX10, 216, "ValleyBells$Melodies", "entries", "[I", RX10) ∈ nwF := List.mem_of_getElem? (i := 8) rfl
theorem mf9 : (RX2, 41, "ValleyBells$Cliffs", "delays", "[I", RX10) ∈ nwF := List.mem_of_getElem? (i := 9) rfl
theorem mf10 : (RX10, 238, "ValleyBells$Cliffs", "delays", "[I", RX10) ∈ nwF := List.mem_of_getElem? (i := 10) rfl
theorem mf11 : (RX2, 44, "ValleyBells$Cliffs", "transpositions", "[I", RX10) ∈ nwF := List.mem_of_getElem? (i := 11) rfl
theorem mf12 : (RX10, 241, "ValleyBells$Cliffs", "transpositions", "[I", RX10) ∈ nwF := List.mem_of_getElem? (i := 12) rfl
theorem mf13 : (RX2, 38, "ValleyBells$Cliffs", "count", "I", RX10) ∈ nwF := List.mem_of_getElem? (i := 13) rfl
theorem mf14 : (RX10, 232, "ValleyBells$Cliffs", "count", "I", RX10) ∈ nwF := List.mem_of_getElem? (i := 14) rfl
theorem mf15 : (RX10, 135, "ValleyBells$Valley", "key", "LValleyBells$Key;", RX10) ∈ nwF := List.mem_of_getElem? (i := 15) rfl
theorem mf16 : (RX2, 57, "ValleyBells$Valley", "bells", "LValleyBells$Bells;", RX10) ∈ nwF := List.mem_of_getElem? (i := 16) rfl
theorem mf17 : (RX10, 108, "ValleyBells$Valley", "bells", "LValleyBells$Bells;", RX10) ∈ nwF := List.mem_of_getElem? (i := 17) rfl
theorem mf18 : (RX2, 47, "ValleyBells$Valley", "melodies", "LValleyBells$Melodies;", RX10) ∈ nwF := List.mem_of_getElem? (i := 18) rfl
theorem mf19 : (RX10, 197, "ValleyBells$Valley", "melodies", "LValleyBells$Melodies;", RX10) ∈ nwF := List.mem_of_getElem? (i := 19) rfl
theorem mf20 : (RX2, 32, "ValleyBells$Valley", "cliffs", "LValleyBells$Cliffs;", RX10) ∈ nwF := List.mem_of_getElem? (i := 20) rfl
theorem mf21 : (RX10, 228, "ValleyBells$Valley", "cliffs", "LValleyBells$Cliffs;", RX10) ∈ nwF := List.mem_of_getElem? (i := 21) rfl
theorem mf22 : (RX10, 364, "ValleyBells$History", "count", "I", RX10) ∈ nwF := List.mem_of_getElem? (i := 22) rfl
theorem mf23 : (RX10, 323, "ValleyBells$Program", "count", "I", RX10) ∈ nwF := List.mem_of_getElem? (i := 23) rfl
theorem mf24 : (RX10, 251, "ValleyBells$Chord", "notes", "[I", RX10) ∈ nwF := List.mem_of_getElem? (i := 24) rfl
theorem mf25 : (RX10, 248, "ValleyBells$Chord", "size", "I", RX10) ∈ nwF := List.mem_of_getElem? (i := 25) rfl
theorem mf26 : (RX2, 79, "ValleyBells", "CONSONANCES", "[I", RX10) ∈ nwF := List.mem_of_getElem? (i := 26) rfl
theorem mf27 : (RX8, 61, "ValleyBells", "COMMANDS", "[LValleyBells$Command;", RX10) ∈ nwF := List.mem_of_getElem? (i := 27) rfl
theorem mf28 : (RX8, 64, "ValleyBells$Command", "form", "Ljava/lang/String;", RX10) ∈ nwF := List.mem_of_getElem? (i := 28) rfl
def ncL : List (String × String) := [("java/lang/IndexOutOfBoundsException", "java/lang/IllegalArgumentException"), ("java/lang/IndexOutOfBoundsException", "java/lang/IllegalStateException"), ("java/lang/IndexOutOfBoundsException", "java/util/NoSuchElementException"), ("java/lang/IndexOutOfBoundsException", "java/lang/UnsupportedOperationException"), ("java/lang/IllegalArgumentException", "java/lang/IndexOutOfBoundsException"), ("java/lang/IllegalArgumentException", "java/lang/IllegalStateException"), ("java/lang/IllegalArgumentException", "java/util/NoSuchElementException"), ("java/lang/IllegalArgumentException", "java/lang/UnsupportedOperationException"), ("java/lang/IllegalStateException", "java/lang/IndexOutOfBoundsException"), ("java/lang/IllegalStateException", "java/lang/IllegalArgumentException"), ("java/lang/IllegalStateException", "java/util/NoSuchElementException"), ("java/lang/IllegalStateException", "java/lang/UnsupportedOperationException"), ("java/util/NoSuchElementException", "java/lang/IndexOutOfBoundsException"), ("java/util/NoSuchElementException", "java/lang/IllegalArgumentException"), ("java/util/NoSuchElementException", "java/lang/IllegalStateException"), ("java/util/NoSuchElementException", "java/lang/UnsupportedOperationException"), ("java/lang/ArithmeticException", "java/lang/IndexOutOfBoundsException"), ("java/lang/ArithmeticException", "java/lang/IllegalArgumentException"), ("java/lang/ArithmeticException", "java/lang/IllegalStateException"), ("java/lang/ArithmeticException", "java/util/NoSuchElementException"), ("java/lang/ArithmeticException", "java/lang/UnsupportedOperationException"), ("java/lang/UnsupportedOperationException", "java/lang/IndexOutOfBoundsException"), ("java/lang/UnsupportedOperationException", "java/lang/IllegalArgumentException"), ("java/lang/UnsupportedOperationException", "java/lang/IllegalStateException"), ("java/lang/UnsupportedOperationException", "java/util/NoSuchElementException")]
def dcL : List MethodName := [⟨"java/lang/RuntimeException", "<init>", "(Ljava/lang/String;)V"⟩, ⟨"java/lang/Exception", "<init>", "(Ljava/lang/String;)V"⟩, ⟨"java/lang/Throwable", "<init>", "(Ljava/lang/String;)V"⟩]
def csL : List String := ["java/lang/IndexOutOfBoundsException", "java/lang/IllegalArgumentException", "java/lang/IllegalStateException", "java/util/NoSuchElementException", "java/lang/ArithmeticException", "java/lang/UnsupportedOperationException"]
def tb_cons : List Int32 := [1, 0, 0, 1, 1, 1, 0, 1, 1, 1, 0, 0]
def tb_thirds : List Int32 := [0, 0, 0, 1, 1, 0, 0, 0, 0, 0, 0, 0]
def tb_major : List Int32 := [1, 0, 1, 0, 1, 1, 0, 1, 0, 1, 0, 1]
def tb_minor : List Int32 := [1, 0, 1, 1, 0, 1, 0, 1, 1, 0, 1, 0]
def tb_switch : List Int32 := [1, 2, 3, 4, 5, 6, 7, 8, 9, 10, 11, 12]
def nm_cmd : List String := ["ADD_BELL", "REMOVE_BELL", "TUNE", "MOVE_BELL", "SET_KEY", "SET_TOLERANCE", "ADD_TONE", "CLEAR_MELODY", "SET_ENTRY", "ADD_CLIFF", "REMOVE_CLIFF", "GRAZE"]
def st_txt : List (List Int32) := [[98, 101, 108, 108, 32, 35, 32, 35, 35, 35, 35], [114, 101, 109, 111, 118, 101, 32, 35, 63], [116, 117, 110, 101, 32, 35, 63, 83, 35, 63], [109, 111, 118, 101, 32, 35, 63, 32, 35], [107, 101, 121, 32, 35, 63, 77], [116, 111, 108, 101, 114, 97, 110, 99, 101, 32, 35, 63], [116, 111, 110, 101, 32, 35, 32, 35, 63], [99, 108, 101, 97, 114, 32, 35], [101, 110, 116, 114, 121, 32, 35, 32, 35, 63], [99, 108, 105, 102, 102, 32, 35, 83, 35, 63], [102, 101, 108, 108, 32, 35], [103, 114, 97, 122, 101, 32, 35, 32, 35, 63], [107, 101, 121, 32, 55, 109, 59, 116, 111, 108, 101, 114, 97, 110, 99, 101, 32, 57, 59, 101, 110, 116, 114, 121, 32, 50, 32, 51, 59, 99, 108, 101, 97, 114, 32, 49], [107, 101, 121, 32, 55, 109, 59, 107, 101, 121, 32, 49, 50, 77], [114, 101, 109, 111, 118, 101, 32, 49, 50], [116, 120], [116, 111], [116, 111, 101], [98, 101, 108, 108, 32, 48, 32, 54, 48, 48], [107, 101, 121, 32, 49], [116, 117, 110, 101, 32, 48], [99, 108, 120], [], [102, 101, 108, 108, 32, 48, 59], [99, 108, 105, 102, 102, 32, 49, 43, 49, 50, 51], [122], [98, 101, 108, 108, 32, 48, 32, 54, 48, 48, 48, 59, 98, 101, 108, 108, 32, 49, 32, 54, 52, 48, 48, 59, 98, 101, 108, 108, 32, 49, 32, 54, 54, 53, 48, 59, 116, 111, 110, 101, 32, 48, 32, 48, 59, 116, 111, 110, 101, 32, 48, 32, 49]]
/-- the script -/
def sx (E : ET) (j : Nat) : Int32 := Int32.ofNat (E.2 (1000 + j))
abbrev zsL (E : ET) : List (String × String × String × Value) := [(RX10, "CONSONANCES", "[I", .ref (E.2 10)), (RX10, "THIRDS", "[I", .ref (E.2 11)), (RX6, "MAJOR", "[I", .ref (E.2 12)), (RX6, "MINOR", "[I", .ref (E.2 13)), (RX0, "$SwitchMap$ValleyBells$Command", "[I", .ref (E.2 14)), (RX10, "COMMANDS", "[LValleyBells$Command;", .ref (E.2 15)), ("java/lang/String", "COMPACT_STRINGS", "Z", .int 1)]
abbrev tsL (E : ET) : List (FieldType × Nat × Nat × (Nat → Value)) := [(.int, E.2 10, 12, fun j => .int (tb_cons.getD j 0)), (.int, E.2 11, 12, fun j => .int (tb_thirds.getD j 0)), (.int, E.2 12, 12, fun j => .int (tb_major.getD j 0)), (.int, E.2 13, 12, fun j => .int (tb_minor.getD j 0)), (.int, E.2 14, 12, fun j => .int (tb_switch.getD j 0)), (.object "ValleyBells$Command", E.2 15, 12, fun j => .ref (E.2 (100 + j))), (.int, E.2 18, E.2 19, fun j => .int (sx E j))]
def ST (E : ET) (U : State) : Prop :=
  va_K E.1 vwCl (tyL E) U ∧ (∀ q ∈ nwM, va_Nw (.methodLinkNest q.1 q.2.1 q.2.2.1 q.2.2.2) U) ∧ (∀ q ∈ nwF, va_Nw (.fieldLinkNest q.1 q.2.1 q.2.2.1 q.2.2.2.1 q.2.2.2.2.1 q.2.2.2.2.2) U) ∧
  (∀ q ∈ zsL E, va_Z q.1 q.2.1 q.2.2.1 q.2.2.2 (zA E) U U.heap) ∧ (∀ q ∈ tsL E, va_T q.1 q.2.1 q.2.2.1 q.2.2.2 (zA E) U U.heap) ∧
  va_En RX4 "LValleyBells$Command;" nm_cmd [("java/lang/Enum", "ordinal", "I", [0, 1, 2, 3, 4, 5, 6, 7, 8, 9, 10, 11])] (fun i => E.2 (100 + i)) (zA E) U U.heap ∧
  va_Ef 12 RX4 "form" "Ljava/lang/String;" (fun i => .ref (E.2 (200 + i))) (fun i => E.2 (100 + i)) (zA E) U U.heap ∧
  vk_S 27 (st_txt.map List.length) st_txt (fun i => E.2 (200 + i)) (fun i => E.2 (300 + i)) (zA E) U U.heap ∧
  (∀ q ∈ srL E, vk_R q.1 q.2.1 q.2.2.1 q.2.2.2 U) ∧ vx_Zq Bundle.tN "UNASSIGNED_STACK" Bundle.steD (zA E) U U.heap ∧ vx_Zq Bundle.tN "SUPPRESSED_SENTINEL" Bundle.listD (zA E) U U.heap ∧ (∀ q ∈ ncL, va_Nc q.1 q.2 U) ∧ (∀ q ∈ csL, va_Nw (.castable q q) U) ∧ va_AO "ValleyBells$Valley" U ∧ va_AO "ValleyBells$Command" U ∧ va_Zq "jdk/internal/util/Preconditions" "SIOOBE_FORMATTER" "Ljava/util/function/BiFunction;" (zA E) U U.heap ∧ (∀ x ∈ dcL, va_Nw (.declares x) U) ∧ (∀ q ∈ atL E, U.vm.findClass q.1 = some q.2)
theorem ST.go {E : ET} {s U : State} (h : ST E s) (hW : s.WarmedH U.vm) (hq : ∀ a : Nat, a < s.heap.size → ¬ zA E a → U.heap[a]? = s.heap[a]?) : ST E U := by
  obtain ⟨h1, h2, h3, h4, h5, h6, h7, h8, h9, h10, h11, h12, h13, h14, h15, h16, h17, h18⟩ := h
  have hv := hW.alike
  exact ⟨va_K.moved hv h1, fun q m => va_Nw.warmM hW (h2 q m), fun q m => va_Nw.warmF hW (h3 q m), fun q m => va_Z.kept (va_Z.moved hv (h4 q m)) hq, fun q m => va_T.kept (va_T.moved hv (h5 q m)) hq, va_En.kept (va_En.moved hv h6) hq, va_Ef.kept (va_Ef.moved hv h7) hq, vk_S.kept (vk_S.moved hv h8) hq, fun q m => vk_R.warm hW (h9 q m), vx_Zq.kept (vx_Zq.moved hv h10) hq, vx_Zq.kept (vx_Zq.moved hv h11) hq, fun q m => va_Nc.moved hv (h12 q m), fun q m => va_Nw.warmC hW (h13 q m), va_AO.moved hv h14, va_AO.moved hv h15, va_Zq.kept (va_Zq.moved hv h16) hq, fun x m => va_Nw.warmD hW (h17 x m), fun q m => by rw [hv.findClass]; exact h18 q m⟩
theorem ST.same {E : ET} {s U : State} (h : ST E s) (hv : U.vm = s.vm) (hh : U.heap = s.heap) : ST E U := h.go (by rw [hv]; exact State.WarmedH.refl s) (fun a _ _ => by rw [hh])
/-! worlds by blocks -/
def pickB (L : List va_W) (is : List Nat) : List va_W := is.filterMap (fun i => L[i]?)
def putB : List va_W → List Nat → List va_W → List va_W
  | L, i :: is, w :: ws => putB (L.set i w) is ws
  | L, _, _ => L
theorem bl_set {α : Type} (L : List (List α)) (i : Nat) (w : List α) (h : i < L.length) : (L.set i w).flatten.Perm (w ++ (L.set i []).flatten) := by
  induction L generalizing i with
  | nil => cases h
  | cons x L ih =>
    cases i with
    | zero => simp
    | succ i =>
      simp only [List.set_cons_succ, List.flatten_cons]
      have := ih i (by simpa using h)
      refine (this.append_left x).trans ?_
      rw [← List.append_assoc, ← List.append_assoc]
      exact (List.perm_append_comm).append_right _
theorem bl_put_set : ∀ (is : List Nat) (L : List va_W) (ws : List va_W) (i : Nat) (w : va_W), i ∉ is → putB (L.set i w) is ws = (putB L is ws).set i w
  | [], L, ws, i, w, _ => by simp [putB]
  | j :: is, L, [], i, w, _ => by simp [putB]
  | j :: is, L, v :: ws, i, w, h => by
    simp only [List.mem_cons, not_or] at h
    simp only [putB]
    rw [List.set_comm _ _ h.1]
    exact bl_put_set is (L.set j v) ws i w h.2
theorem bl_put_len : ∀ (is : List Nat) (L ws : List va_W), (putB L is ws).length = L.length
  | [], L, ws => by simp [putB]
  | j :: is, L, [] => by simp [putB]
  | j :: is, L, v :: ws => by
    simp only [putB]
    rw [bl_put_len is (L.set j v) ws, List.length_set]
theorem bl_pick_set : ∀ (is : List Nat) (L : List va_W) (i : Nat) (w : va_W), i ∉ is → pickB (L.set i w) is = pickB L is := by
  intro is
  induction is with
  | nil => intro L i w h; rfl
  | cons j is ih =>
    intro L i w h
    simp only [List.mem_cons, not_or] at h
    have h1 := ih L i w h.2
    unfold pickB at h1 ⊢
    simp only [List.filterMap_cons]
    rw [List.getElem?_set_ne h.1, h1]
theorem bl_perm : ∀ (is : List Nat), va_nd is = true → ∀ (L : List va_W), (∀ i ∈ is, i < L.length) → ∃ R : va_W, L.flatten.Perm ((pickB L is).flatten ++ R) ∧ ∀ ws : List va_W, ws.length = is.length → (putB L is ws).flatten.Perm (ws.flatten ++ R)
  | [], _, L, _ => ⟨L.flatten, by simp [pickB], fun ws hw => by
      have : ws = [] := by cases ws with
        | nil => rfl
        | cons a b => simp at hw
      subst this
      simp [putB]⟩
  | i :: is, hn, L, hl => by
    simp only [va_nd, Bool.and_eq_true, decide_eq_true_eq] at hn
    have hi : i < L.length := hl i (by simp)
    obtain ⟨R, h1, h2⟩ := bl_perm is hn.2 (L.set i []) (fun j hj => by rw [List.length_set]; exact hl j (List.mem_cons_of_mem _ hj))
    rw [bl_pick_set is L i [] hn.1] at h1
    refine ⟨R, ?_, fun ws hw => ?_⟩
    · have e : L = L.set i L[i] := by simp
      have p : pickB L (i :: is) = L[i] :: pickB L is := by
        unfold pickB
        rw [List.filterMap_cons_some (List.getElem?_eq_getElem hi)]
      rw [p, List.flatten_cons, List.append_assoc]
      refine List.Perm.trans ?_ (h1.append_left L[i])
      have h := bl_set L i L[i] hi
      rwa [← e] at h
    · cases ws with
      | nil => simp at hw
      | cons w ws =>
        have hw' : ws.length = is.length := by simpa using hw
        simp only [putB, List.flatten_cons]
        rw [bl_put_set is L ws i w hn.1, List.append_assoc]
        refine (bl_set _ i w (by rw [bl_put_len]; exact hi)).trans (List.Perm.append_left w ?_)
        rw [← bl_put_set is L ws i [] hn.1]
        exact h2 ws hw'
theorem P_iff {D : va_G} {cl : List vw_C} {ws : va_W} {H : Heap} : va_P D cl ws H ↔ ∀ q ∈ ws, va_at D cl q H :=
  ⟨fun h q hq => by obtain ⟨k, hk⟩ := List.getElem?_of_mem hq; exact h k q hk, fun h k q hk => h q (List.mem_of_getElem? hk)⟩
theorem D_iff {A : Nat → Prop} {ws : va_W} : va_D A ws ↔ (ws.map Prod.fst).Nodup ∧ ∀ q ∈ ws, A q.1 := by
  constructor
  · intro h
    refine ⟨?_, fun q hq => by obtain ⟨k, hk⟩ := List.getElem?_of_mem hq; exact h.2 k q hk⟩
    refine List.pairwise_iff_getElem.mpr (fun i j hi hj hij e => ?_)
    rw [List.length_map] at hi hj
    rw [List.getElem_map, List.getElem_map] at e
    have := h.1 i j ws[i] ws[j] (List.getElem?_eq_getElem hi) (List.getElem?_eq_getElem hj) e
    omega
  · intro h
    refine ⟨fun i j p q hi hj e => ?_, fun k q hk => h.2 q (List.mem_of_getElem? hk)⟩
    have hn := List.pairwise_iff_getElem.mp h.1
    obtain ⟨hil, e1⟩ := List.getElem?_eq_some_iff.mp hi
    obtain ⟨hjl, e2⟩ := List.getElem?_eq_some_iff.mp hj
    rcases Nat.lt_trichotomy i j with c | c | c
    · exact absurd (by rw [List.getElem_map, List.getElem_map, e1, e2, e]) (hn i j (by simpa using hil) (by simpa using hjl) c)
    · exact c
    · exact absurd (by rw [List.getElem_map, List.getElem_map, e1, e2, e]) (hn j i (by simpa using hjl) (by simpa using hil) c)
theorem P_perm {D : va_G} {cl : List vw_C} {w1 w2 : va_W} {H : Heap} (h : va_P D cl w1 H) (p : w1.Perm w2) : va_P D cl w2 H := P_iff.mpr (fun q hq => P_iff.mp h q (p.mem_iff.mpr hq))
theorem D_perm {A : Nat → Prop} {w1 w2 : va_W} (h : va_D A w1) (p : w1.Perm w2) : va_D A w2 := by
  obtain ⟨h1, h2⟩ := D_iff.mp h
  exact D_iff.mpr ⟨(p.map _).nodup_iff.mp h1, fun q hq => h2 q (p.mem_iff.mpr hq)⟩
theorem A_iff {ws : va_W} {sz q : Nat} : va_A ws sz q ↔ (∃ e : va_E, (q, e) ∈ ws) ∨ sz ≤ q :=
  ⟨fun h => h.elim (fun ⟨k, e, hk⟩ => Or.inl ⟨e, List.mem_of_getElem? hk⟩) Or.inr, fun h => h.elim (fun ⟨e, he⟩ => Or.inl (by obtain ⟨k, hk⟩ := List.getElem?_of_mem he; exact ⟨k, e, hk⟩)) Or.inr⟩
/-- the cells of some blocks, cut out -/
theorem fr_P {D : va_G} {cl : List vw_C} {L Lc : List va_W} {H : Heap} (hP : va_P D cl L.flatten H) (is : List Nat) (hp : pickB L is = Lc) : va_P D cl Lc.flatten H := by
  refine P_iff.mpr (fun q hq => P_iff.mp hP q ?_)
  rw [← hp] at hq
  obtain ⟨w, hw, hqw⟩ := List.mem_flatten.mp hq
  obtain ⟨i, -, hi⟩ := List.mem_filterMap.mp hw
  exact List.mem_flatten.mpr ⟨w, List.mem_of_getElem? hi, hqw⟩
theorem fr_D {A : Nat → Prop} {L Lc : List va_W} (hD : va_D A L.flatten) (is : List Nat) (hn : va_nd is = true) (hl : is.all (fun i => decide (i < L.length)) = true) (hp : pickB L is = Lc) : va_D A Lc.flatten := by
  obtain ⟨R, h1, -⟩ := bl_perm is hn L (fun i hi => by simpa using List.all_eq_true.mp hl i hi)
  obtain ⟨h2, h3⟩ := D_iff.mp (D_perm hD h1)
  rw [hp] at h2 h3
  rw [List.map_append] at h2
  exact D_iff.mpr ⟨(List.nodup_append.mp h2).1, fun q hq => h3 q (List.mem_append_left _ hq)⟩
theorem fr_A {A : Nat → Prop} {L Lc : List va_W} {H0 H : Heap} {locs : List Loc} (hD : va_D A L.flatten) (hS : va_S A H0 H locs) (hA : ∀ q, H0.size ≤ q → A q) (is : List Nat) (hp : pickB L is = Lc) : ∀ q, va_A Lc.flatten H.size q → A q := by
  intro q h
  rcases A_iff.mp h with ⟨e, he⟩ | h
  · refine (D_iff.mp hD).2 (q, e) ?_
    rw [← hp] at he
    obtain ⟨w, hw, hqw⟩ := List.mem_flatten.mp he
    obtain ⟨i, -, hi⟩ := List.mem_filterMap.mp hw
    exact List.mem_flatten.mpr ⟨w, List.mem_of_getElem? hi, hqw⟩
  · exact hA q (Nat.le_trans hS.1 h)
/-- behind a call: the callee's blocks put back, the others as they were -/
theorem fr_join {A : Nat → Prop} {D : va_G} {cl : List vw_C} {L Lc Lc' L' : List va_W} {H H1 : Heap} (hP : va_P D cl L.flatten H) (hD : va_D A L.flatten) (is : List Nat) (hn : va_nd is = true) (hl : is.all (fun i => decide (i < L.length)) = true) (hp : pickB L is = Lc) (hlen : Lc'.length = is.length) (hput : putB L is Lc' = L')
    (hk : ∀ q : Nat, q < H.size → ¬ va_A Lc.flatten H.size q → H1[q]? = H[q]?) (hF : ∀ q, va_A Lc.flatten H.size q → A q) (hP1 : va_P D cl Lc'.flatten H1) (hD1 : va_D (va_A Lc.flatten H.size) Lc'.flatten) : va_P D cl L'.flatten H1 ∧ va_D A L'.flatten := by
  obtain ⟨R, h1, h2⟩ := bl_perm is hn L (fun i hi => by simpa using List.all_eq_true.mp hl i hi)
  have p2 := h2 Lc' hlen
  rw [hput] at p2
  rw [hp] at h1
  have hD2 := D_iff.mp (D_perm hD h1)
  have hP2 := P_iff.mp (P_perm hP h1)
  rw [List.map_append] at hD2
  obtain ⟨n1, n2, n3⟩ := List.nodup_append.mp hD2.1
  have apart : ∀ q ∈ R, q.1 < H.size ∧ ¬ va_A Lc.flatten H.size q.1 := by
    intro q hq
    have hlt := (hP2 q (List.mem_append_right _ hq)).lt
    refine ⟨hlt, fun h => ?_⟩
    rcases A_iff.mp h with ⟨e, he⟩ | h
    · exact n3 q.1 (List.mem_map.mpr ⟨(q.1, e), he, rfl⟩) q.1 (List.mem_map.mpr ⟨q, hq, rfl⟩) rfl
    · omega
  have hD1' := D_iff.mp hD1
  refine ⟨P_perm (P_iff.mpr (fun q hq => ?_)) p2.symm, D_perm (D_iff.mpr ⟨?_, fun q hq => ?_⟩) p2.symm⟩
  · rcases List.mem_append.mp hq with h | h
    · exact P_iff.mp hP1 q h
    · exact (hP2 q (List.mem_append_right _ h)).kept (hk q.1 (apart q h).1 (apart q h).2)
  · rw [List.map_append]
    refine List.nodup_append.mpr ⟨hD1'.1, n2, fun x hx y hy e => ?_⟩
    obtain ⟨q, hq, rfl⟩ := List.mem_map.mp hx
    obtain ⟨r, hr, rfl⟩ := List.mem_map.mp hy
    exact (apart r hr).2 (by rw [← e]; exact hD1'.2 q hq)
  · rcases List.mem_append.mp hq with h | h
    · exact hF _ (hD1'.2 q h)
    · exact hD2.2 q (List.mem_append_right _ h)
/-! contracts -/
def PreW (E : ET) (L : List va_W) (sz : Nat) (U : State) : Prop := U.heap.size = sz ∧ va_P E.1 vwCl L.flatten U.heap ∧ va_D (zA E) L.flatten ∧ E.2 0 ≤ sz ∧ ST E U
def PstW (E : ET) (A : Nat → Prop) (L : List va_W) (t : State) : Prop := va_P E.1 vwCl L.flatten t.heap ∧ va_D A L.flatten
def CtI (l : Launch) (y : MethodName) (ws : List Cond) (rm : Room) (mc ms : Nat) (av : List Value) (E : ET) (L : List va_W) (rv : Int32) (L' : List va_W) (sz : Nat) : Prop := Met l y ws rm (va_Pc av (PreW E L sz)) (va_Qi (fun r (_ : Unit) => r = rv) (fun _ t => PstW E (va_A L.flatten sz) L' t) (va_A L.flatten sz)) mc ms (va_A L.flatten sz)
def CtJ (l : Launch) (y : MethodName) (ws : List Cond) (rm : Room) (mc ms : Nat) (av : List Value) (E : ET) (L : List va_W) (rv : Int64) (L' : List va_W) (sz : Nat) : Prop := Met l y ws rm (va_Pc av (PreW E L sz)) (va_Ql (fun r (_ : Unit) => r = rv) (fun _ t => PstW E (va_A L.flatten sz) L' t) (va_A L.flatten sz)) mc ms (va_A L.flatten sz)
def CtF (l : Launch) (y : MethodName) (ws : List Cond) (rm : Room) (mc ms : Nat) (av : List Value) (E : ET) (L : List va_W) (rv : UInt32) (L' : List va_W) (sz : Nat) : Prop := Met l y ws rm (va_Pc av (PreW E L sz)) (va_Qf (fun r (_ : Unit) => r = rv) (fun _ t => PstW E (va_A L.flatten sz) L' t) (va_A L.flatten sz)) mc ms (va_A L.flatten sz)
def CtD (l : Launch) (y : MethodName) (ws : List Cond) (rm : Room) (mc ms : Nat) (av : List Value) (E : ET) (L : List va_W) (rv : UInt64) (L' : List va_W) (sz : Nat) : Prop := Met l y ws rm (va_Pc av (PreW E L sz)) (va_Qd (fun r (_ : Unit) => r = rv) (fun _ t => PstW E (va_A L.flatten sz) L' t) (va_A L.flatten sz)) mc ms (va_A L.flatten sz)
def CtV (l : Launch) (y : MethodName) (ws : List Cond) (rm : Room) (mc ms : Nat) (av : List Value) (E : ET) (L : List va_W) (L' : List va_W) (sz : Nat) : Prop := Met l y ws rm (va_Pc av (PreW E L sz)) (va_Qv (fun (_ : Unit) => True) (fun _ t => PstW E (va_A L.flatten sz) L' t) (va_A L.flatten sz)) mc ms (va_A L.flatten sz)
theorem pre_blind {av : List Value} {E : ET} {L : List va_W} {sz : Nat} : FrameBlind (va_Pc av (PreW E L sz)) := by
  intro a U g mk h
  obtain ⟨h0, h1, h2, h3, h4, h5⟩ := h
  exact ⟨h0, h1, h2, h3, h4, h5.same rfl rfl⟩
theorem pre_at {av : List Value} {E : ET} {A : Nat → Prop} {L Lc : List va_W} {s : State} {H : Heap} {locs : List Loc} (hP : va_P E.1 vwCl L.flatten H) (hD : va_D A L.flatten) (hS : va_S A s.heap H locs) (hz : ∀ q, A q → E.2 0 ≤ q) (hzs : E.2 0 ≤ s.heap.size) (hst : ST E s) (is : List Nat) (hn : va_nd is = true) (hl : is.all (fun i => decide (i < L.length)) = true) (hp : pickB L is = Lc) : ∀ U : State, U.heap = H → s.WarmedH U.vm → va_Pc av (PreW E Lc H.size) av.toArray U := by
  intro U hU hW
  refine ⟨rfl, by rw [hU], by rw [hU]; exact fr_P hP is hp, (fr_D hD is hn hl hp).weaken (fun _ _ _ h => hz _ h), Nat.le_trans hzs hS.1, hst.go hW (fun a h1 h2 => ?_)⟩
  rw [hU]
  exact hS.2.1 a h1 (fun h => h2 (hz a h))
section QCL
variable {p : Program} {l : Launch} {e : Env} {R : Room} {s : State} {m : MethodId} {args : Array Value} {below : List Frame} {meth : Method} {c : Code} {H : Heap} {locs : List Loc} {cells slots : Nat} {Q : State → Prop} {pc : Nat} {ls : Array Slot} {rest st0 : List Value} {a : Array Value} {A : Nat → Prop} {mc ms : Nat} {E : ET} {L Lc Lc' L' : List va_W}
theorem cl_i {rv : Int32} (hr : va_Run p l e R s m args below meth c H locs cells slots mc ms (F0 m pc ls st0) rest (va_Qi (fun r (_ : Unit) => r = rv) (fun _ t => PstW E (va_A Lc.flatten H.size) Lc' t) (va_A Lc.flatten H.size) a) (va_A Lc.flatten H.size)) (hP : va_P E.1 vwCl L.flatten H) (hD : va_D A L.flatten) (hS : va_S A s.heap H locs) (hA : ∀ q, s.heap.size ≤ q → A q) (is : List Nat) (hn : va_nd is = true) (hl : is.all (fun i => decide (i < L.length)) = true) (hp : pickB L is = Lc) (hlen : Lc'.length = is.length) (hput : putB L is Lc' = L')
    (kk : ∀ (H1 : Heap) (locs1 : List Loc), va_P E.1 vwCl L'.flatten H1 → va_D A L'.flatten → va_S A s.heap H1 locs1 → W p l e R s m args below meth c H1 locs1 (cells + mc) (slots + ms) Q (F0 m (pc + 3) ls (.int rv :: rest))) : W p l e R s m args below meth c H locs cells slots Q (F0 m pc ls st0) := by
  have hF := fr_A hD hS hA is hp
  refine va_calli hr hS (fun q _ h => hF q h) hF (fun r u t H1 locs1 ht hvm hw hB hz1 hk1 hS1 => ?_)
  obtain ⟨hP1, hD1⟩ := hB
  rw [ht] at hP1
  obtain ⟨hP2, hD2⟩ := fr_join hP hD is hn hl hp hlen hput hk1 hF hP1 hD1
  rw [hw]
  exact kk H1 locs1 hP2 hD2 hS1
theorem cl_j {rv : Int64} (hr : va_Run p l e R s m args below meth c H locs cells slots mc ms (F0 m pc ls st0) rest (va_Ql (fun r (_ : Unit) => r = rv) (fun _ t => PstW E (va_A Lc.flatten H.size) Lc' t) (va_A Lc.flatten H.size) a) (va_A Lc.flatten H.size)) (hP : va_P E.1 vwCl L.flatten H) (hD : va_D A L.flatten) (hS : va_S A s.heap H locs) (hA : ∀ q, s.heap.size ≤ q → A q) (is : List Nat) (hn : va_nd is = true) (hl : is.all (fun i => decide (i < L.length)) = true) (hp : pickB L is = Lc) (hlen : Lc'.length = is.length) (hput : putB L is Lc' = L')
    (kk : ∀ (H1 : Heap) (locs1 : List Loc), va_P E.1 vwCl L'.flatten H1 → va_D A L'.flatten → va_S A s.heap H1 locs1 → W p l e R s m args below meth c H1 locs1 (cells + mc) (slots + ms) Q (F0 m (pc + 3) ls (.long rv :: rest))) : W p l e R s m args below meth c H locs cells slots Q (F0 m pc ls st0) := by
  have hF := fr_A hD hS hA is hp
  refine va_calll hr hS (fun q _ h => hF q h) hF (fun r u t H1 locs1 ht hvm hw hB hz1 hk1 hS1 => ?_)
  obtain ⟨hP1, hD1⟩ := hB
  rw [ht] at hP1
  obtain ⟨hP2, hD2⟩ := fr_join hP hD is hn hl hp hlen hput hk1 hF hP1 hD1
  rw [hw]
  exact kk H1 locs1 hP2 hD2 hS1
theorem cl_f {rv : UInt32} (hr : va_Run p l e R s m args below meth c H locs cells slots mc ms (F0 m pc ls st0) rest (va_Qf (fun r (_ : Unit) => r = rv) (fun _ t => PstW E (va_A Lc.flatten H.size) Lc' t) (va_A Lc.flatten H.size) a) (va_A Lc.flatten H.size)) (hP : va_P E.1 vwCl L.flatten H) (hD : va_D A L.flatten) (hS : va_S A s.heap H locs) (hA : ∀ q, s.heap.size ≤ q → A q) (is : List Nat) (hn : va_nd is = true) (hl : is.all (fun i => decide (i < L.length)) = true) (hp : pickB L is = Lc) (hlen : Lc'.length = is.length) (hput : putB L is Lc' = L')
    (kk : ∀ (H1 : Heap) (locs1 : List Loc), va_P E.1 vwCl L'.flatten H1 → va_D A L'.flatten → va_S A s.heap H1 locs1 → W p l e R s m args below meth c H1 locs1 (cells + mc) (slots + ms) Q (F0 m (pc + 3) ls (.float rv :: rest))) : W p l e R s m args below meth c H locs cells slots Q (F0 m pc ls st0) := by
  have hF := fr_A hD hS hA is hp
  refine va_callf hr hS (fun q _ h => hF q h) hF (fun r u t H1 locs1 ht hvm hw hB hz1 hk1 hS1 => ?_)
  obtain ⟨hP1, hD1⟩ := hB
  rw [ht] at hP1
  obtain ⟨hP2, hD2⟩ := fr_join hP hD is hn hl hp hlen hput hk1 hF hP1 hD1
  rw [hw]
  exact kk H1 locs1 hP2 hD2 hS1
theorem cl_d {rv : UInt64} (hr : va_Run p l e R s m args below meth c H locs cells slots mc ms (F0 m pc ls st0) rest (va_Qd (fun r (_ : Unit) => r = rv) (fun _ t => PstW E (va_A Lc.flatten H.size) Lc' t) (va_A Lc.flatten H.size) a) (va_A Lc.flatten H.size)) (hP : va_P E.1 vwCl L.flatten H) (hD : va_D A L.flatten) (hS : va_S A s.heap H locs) (hA : ∀ q, s.heap.size ≤ q → A q) (is : List Nat) (hn : va_nd is = true) (hl : is.all (fun i => decide (i < L.length)) = true) (hp : pickB L is = Lc) (hlen : Lc'.length = is.length) (hput : putB L is Lc' = L')
    (kk : ∀ (H1 : Heap) (locs1 : List Loc), va_P E.1 vwCl L'.flatten H1 → va_D A L'.flatten → va_S A s.heap H1 locs1 → W p l e R s m args below meth c H1 locs1 (cells + mc) (slots + ms) Q (F0 m (pc + 3) ls (.double rv :: rest))) : W p l e R s m args below meth c H locs cells slots Q (F0 m pc ls st0) := by
  have hF := fr_A hD hS hA is hp
  refine va_calld hr hS (fun q _ h => hF q h) hF (fun r u t H1 locs1 ht hvm hw hB hz1 hk1 hS1 => ?_)
  obtain ⟨hP1, hD1⟩ := hB
  rw [ht] at hP1
  obtain ⟨hP2, hD2⟩ := fr_join hP hD is hn hl hp hlen hput hk1 hF hP1 hD1
  rw [hw]
  exact kk H1 locs1 hP2 hD2 hS1
theorem cl_v (hr : va_Run p l e R s m args below meth c H locs cells slots mc ms (F0 m pc ls st0) rest (va_Qv (fun (_ : Unit) => True) (fun _ t => PstW E (va_A Lc.flatten H.size) Lc' t) (va_A Lc.flatten H.size) a) (va_A Lc.flatten H.size)) (hP : va_P E.1 vwCl L.flatten H) (hD : va_D A L.flatten) (hS : va_S A s.heap H locs) (hA : ∀ q, s.heap.size ≤ q → A q) (is : List Nat) (hn : va_nd is = true) (hl : is.all (fun i => decide (i < L.length)) = true) (hp : pickB L is = Lc) (hlen : Lc'.length = is.length) (hput : putB L is Lc' = L')
    (kk : ∀ (H1 : Heap) (locs1 : List Loc), va_P E.1 vwCl L'.flatten H1 → va_D A L'.flatten → va_S A s.heap H1 locs1 → W p l e R s m args below meth c H1 locs1 (cells + mc) (slots + ms) Q (F0 m (pc + 3) ls rest)) : W p l e R s m args below meth c H locs cells slots Q (F0 m pc ls st0) := by
  have hF := fr_A hD hS hA is hp
  refine va_callv hr hS (fun q _ h => hF q h) hF (fun u t H1 locs1 ht hvm hw hB hz1 hk1 hS1 => ?_)
  obtain ⟨hP1, hD1⟩ := hB
  rw [ht] at hP1
  obtain ⟨hP2, hD2⟩ := fr_join hP hD is hn hl hp hlen hput hk1 hF hP1 hD1
  exact kk H1 locs1 hP2 hD2 hS1
end QCL
/-! a method's beginning -/
theorem mk_W {l : Launch} {y : MethodName} {ws ws' : List Cond} {rm : Room} {Pc : Array Value → State → Prop} {Qc : Array Value → State → Outcome → State → Prop} {mc ms : Nat} {free : Addr → Prop} {b : ByteArray} {n : Nat} {r : Option FieldType} (hy : plainFor y = true) (hw : ws = Cond.code y b n r :: ws')
    (body : ∀ p e s m args below meth c s₁, BodyLoose p l y (headSpec ws rm) b n r e s m args below meth c s₁ → c.maxLocals = n → Pc args s → W p l e (headSpec ws rm).room s m args below meth c s.heap [] 0 0 (MQ below Qc args s mc ms free) (entryFrame m args n)) : Met l y ws rm Pc Qc mc ms free := by
  refine MetFree.of_bodySF (code := b) (maxLocals := n) (ret := r) hy (fun args s m h hn => ?_) (fun p e s m args below meth c s₁ B hml hP _ => ?_)
  · obtain ⟨meth, c, h1, h2, h3, h4, h5, h6, -⟩ := Cond.code_spec hn (atoms_spec (ws := ws) h _ (by rw [hw]; exact List.mem_cons_self))
    exact ⟨meth, c, h1, h2, h3, h4, h5, h6⟩
  · obtain ⟨t, a1, o, b1, b2, b3⟩ := body p e s m args below meth c s₁ B hml hP s₁ (by rw [B.state]; rfl) (Stand.of_body B)
    exact ⟨t, o, a1, b1, b2, b3.1, b3.2⟩
theorem mk_M {l : Launch} {y : MethodName} {b : ByteArray} {n : Nat} {r : Option FieldType} {rm : Room} {mc ms : Nat} {av : List Value} {E : ET} {L : List va_W} {sz : Nat} {Qc : Array Value → State → Outcome → State → Prop} (hpl : plainFor y = true) (hav : (lg_sl av).length ≤ n)
    (body : ∀ (p : Program) (e : Env) (s : State) (m : MethodId) (below : List Frame) (meth : Method) (c : Code) (A : Nat → Prop) (args : Array Value) (Q : State → Prop) (ls : Array Slot), va_A L.flatten sz = A → s.heap.size = sz → Q = MQ below Qc args s mc ms A → p.tables.exec = Jvm.exec → c.code = b → meth.sig.returnType = r → c.maxLocals = n → meth.name = y.name → (∀ w ∈ lw_all, w.before args s = true) → s.vm.findClass y.cls = some m.cls → meth.locks = false → (∀ q, s.heap.size ≤ q → A q) → (∀ q, A q → E.2 0 ≤ q) → E.2 0 ≤ s.heap.size → ST E s → va_P E.1 vwCl L.flatten s.heap → va_D A L.flatten → va_S A s.heap s.heap [] → lv_has ls n (lv_args 0 av) → W p l e rm s m args below meth c s.heap [] 0 0 Q (F0 m 0 ls [])) :
    Met l y (mws y b n r) rm (va_Pc av (PreW E L sz)) Qc mc ms (va_A L.flatten sz) := by
  refine mk_W (b := b) (n := n) (r := r) hpl rfl ?_
  intro p e s m args below meth c s₁ B hml hv
  obtain ⟨rfl, hsz, hP, hD0, hz0, hst⟩ := hv
  have hts := atoms_spec (ws := mws y b n r) B.pre
  rw [lg_entry_eq]
  refine body p e s m below meth c _ _ _ _ rfl hsz rfl B.exec B.bytes B.returns hml (name_of_methodNamed B.named B.method).1 (fun w h => hts w (List.mem_cons_of_mem _ h)) (findClass_of_methodNamed B.named) B.notSynchronized (fun q h => Or.inr (by rw [← hsz]; exact h)) (fun q h => ?_) (by rw [hsz]; exact hz0) hst hP hD0.self va_S.rf (lv_entry av hav)
  rcases A_iff.mp h with ⟨e9, he⟩ | h
  · exact (D_iff.mp hD0).2 (q, e9) he
  · exact Nat.le_trans hz0 h
/-! a method's end -/
section QEN
variable {p : Program} {l : Launch} {e : Env} {R : Room} {s : State} {m : MethodId} {args : Array Value} {below : List Frame} {meth : Method} {c : Code} {H : Heap} {locs : List Loc} {mc ms cells slots : Nat} {pc : Nat} {ls : Array Slot} {A : Nat → Prop} {E : ET} {L' : List va_W} {cc : ByteArray} {Q : State → Prop}
theorem en_i {v rv : Int32} (hQ : Q = MQ below (va_Qi (fun r (_ : Unit) => r = rv) (fun _ t => PstW E A L' t) A) args s mc ms A) (hc : cells ≤ mc) (hs : slots ≤ ms) (hx : p.tables.exec = Jvm.exec) (hb : c.code = cc) (hr : meth.sig.returnType = some .int) (hlocks : meth.locks = false) (hP : va_P E.1 vwCl L'.flatten H) (hD : va_D A L'.flatten) (hS : va_S A s.heap H locs) (hrv : v = rv) (hdg : decode cc pc = .ok (.ireturn, 1)) :
    W p l e R s m args below meth c H locs cells slots Q (F0 m pc ls [.int v]) := by
  refine W.widen hc hs ?_
  rw [hQ]
  exact W.iret (v := v) hx hb hr (fun t ht hW => ⟨⟨v, (), rfl, hrv, (show PstW E A L' t from ⟨by rw [ht]; exact hP, hD⟩)⟩, hS.F ht⟩) hS.2.2 hdg hlocks
theorem en_z {v rv : Int32} {ty : FieldType} (hQ : Q = MQ below (va_Qi (fun r (_ : Unit) => r = rv) (fun _ t => PstW E A L' t) A) args s mc ms A) (hc : cells ≤ mc) (hs : slots ≤ ms) (hx : p.tables.exec = Jvm.exec) (hb : c.code = cc) (hr : meth.sig.returnType = some ty) (hlocks : meth.locks = false) (hn : narrow ty (.int v) = .int v) (hP : va_P E.1 vwCl L'.flatten H) (hD : va_D A L'.flatten) (hS : va_S A s.heap H locs) (hrv : v = rv) (hdg : decode cc pc = .ok (.ireturn, 1)) :
    W p l e R s m args below meth c H locs cells slots Q (F0 m pc ls [.int v]) := by
  refine W.widen hc hs ?_
  rw [hQ]
  exact W.zret (v := v) hx hb hr hn (fun t ht hW => ⟨⟨v, (), rfl, hrv, (show PstW E A L' t from ⟨by rw [ht]; exact hP, hD⟩)⟩, hS.F ht⟩) hS.2.2 hdg hlocks
theorem en_v (hQ : Q = MQ below (va_Qv (fun (_ : Unit) => True) (fun _ t => PstW E A L' t) A) args s mc ms A) (hc : cells ≤ mc) (hs : slots ≤ ms) (hx : p.tables.exec = Jvm.exec) (hb : c.code = cc) (hr : meth.sig.returnType = none) (hlocks : meth.locks = false) (hP : va_P E.1 vwCl L'.flatten H) (hD : va_D A L'.flatten) (hS : va_S A s.heap H locs) (hdg : decode cc pc = .ok (.return_, 1)) :
    W p l e R s m args below meth c H locs cells slots Q (F0 m pc ls []) := by
  refine W.widen hc hs ?_
  rw [hQ]
  exact W.vret hx hb hr (fun t ht hW => ⟨⟨(), rfl, trivial, (show PstW E A L' t from ⟨by rw [ht]; exact hP, hD⟩)⟩, hS.F ht⟩) hS.2.2 hdg hlocks
end QEN
theorem q_jn {α β : Type} {x : α} {k : α → Option β} {r : β} (h : q_lt x k = some r) : ∃ y, y = x ∧ k y = some r := ⟨x, rfl, h⟩
theorem nz_b {v : Int32} (h : v = 0 ∨ v = 1) : narrow .boolean (.int v) = .int v := by rcases h with rfl | rfl <;> decide
theorem fz_b {v : Int32} (h : v = 0 ∨ v = 1) : fits .boolean (.int v) = true := by rcases h with rfl | rfl <;> decide
section QOP
variable {p : Program} {l : Launch} {e : Env} {R : Room} {s : State} {m : MethodId} {args : Array Value} {below : List Frame} {meth : Method} {c : Code} {H : Heap} {locs : List Loc} {cells slots : Nat} {Q : State → Prop} {cc : ByteArray} {pc : Nat} {ls : Array Slot} {rest : List Value} {D : va_G} {cl : List vw_C} {A : Nat → Prop} {a : Nat} {tys : List (ClassId × FieldType)} {ws : va_W} {H0 : Heap}
theorem vi_iald (hx : p.tables.exec = Jvm.exec) (hb : c.code = cc) (hK : va_K D cl tys s) (hP : va_P D cl ws H) (q0 t0 : Nat) {cA : ClassId} {n : Nat} {f : Nat → Int32} (ha : ws[q0]? = some (a, .inl (cA, n, .inl f))) (ht : tys[t0]? = some (cA, .int)) {i : Int32} {k : Nat} (hk : i.toNatClampNeg = k) (hin : q_in i n) (hdg : decode cc pc = .ok (.iaload, 1)) (kk : W p l e R s m args below meth c H locs cells slots Q (F0 m (pc + 1) ls (.int (f k) :: rest))) : W p l e R s m args below meth c H locs cells slots Q (F0 m pc ls (.int i :: .ref a :: rest)) := by
  subst hk
  exact va_iald hx hb hK hP q0 t0 ha ht hin hdg kk
theorem vi_cald (hx : p.tables.exec = Jvm.exec) (hb : c.code = cc) (hK : va_K D cl tys s) (hP : va_P D cl ws H) (q0 t0 : Nat) {cA : ClassId} {n : Nat} {f : Nat → Int32} (ha : ws[q0]? = some (a, .inl (cA, n, .inl f))) (ht : tys[t0]? = some (cA, .char)) {i : Int32} {k : Nat} (hk : i.toNatClampNeg = k) (hin : q_in i n) (hdg : decode cc pc = .ok (.caload, 1)) (kk : W p l e R s m args below meth c H locs cells slots Q (F0 m (pc + 1) ls (.int (f k) :: rest))) : W p l e R s m args below meth c H locs cells slots Q (F0 m pc ls (.int i :: .ref a :: rest)) := by
  subst hk
  exact va_cald hx hb hK hP q0 t0 ha ht hin hdg kk
theorem vi_bald (hx : p.tables.exec = Jvm.exec) (hb : c.code = cc) (hK : va_K D cl tys s) (hP : va_P D cl ws H) (q0 t0 : Nat) {cA : ClassId} {n : Nat} {f : Nat → Int32} (ha : ws[q0]? = some (a, .inl (cA, n, .inl f))) (ht : tys[t0]? = some (cA, .byte)) {i : Int32} {k : Nat} (hk : i.toNatClampNeg = k) (hin : q_in i n) (hdg : decode cc pc = .ok (.baload, 1)) (kk : W p l e R s m args below meth c H locs cells slots Q (F0 m (pc + 1) ls (.int (f k) :: rest))) : W p l e R s m args below meth c H locs cells slots Q (F0 m pc ls (.int i :: .ref a :: rest)) := by
  subst hk
  exact va_bald hx hb hK hP q0 t0 ha ht hin hdg kk
theorem vi_iast (hx : p.tables.exec = Jvm.exec) (hb : c.code = cc) (hK : va_K D cl tys s) (hP : va_P D cl ws H) (hD : va_D A ws) (hS : va_S A H0 H locs) (q0 t0 : Nat) {cA : ClassId} {n : Nat} {f : Nat → Int32} (ha : ws[q0]? = some (a, .inl (cA, n, .inl f))) (ht : tys[t0]? = some (cA, .int)) {i x : Int32} {k : Nat} (hk : i.toNatClampNeg = k) (hin : q_in i n) (hdg : decode cc pc = .ok (.iastore, 1)) (kk : ∀ (H1 : Heap) (locs1 : List Loc), va_P D cl (ws.set q0 (a, .inl (cA, n, .inl (upd f k x)))) H1 → va_D A (ws.set q0 (a, .inl (cA, n, .inl (upd f k x)))) → va_S A H0 H1 locs1 → W p l e R s m args below meth c H1 locs1 cells slots Q (F0 m (pc + 1) ls rest)) : W p l e R s m args below meth c H locs cells slots Q (F0 m pc ls (.int x :: .int i :: .ref a :: rest)) := by
  subst hk
  exact va_iast hx hb hK hP hD hS q0 t0 ha ht hin hdg kk
theorem vi_cast (hx : p.tables.exec = Jvm.exec) (hb : c.code = cc) (hK : va_K D cl tys s) (hP : va_P D cl ws H) (hD : va_D A ws) (hS : va_S A H0 H locs) (q0 t0 : Nat) {cA : ClassId} {n : Nat} {f : Nat → Int32} (ha : ws[q0]? = some (a, .inl (cA, n, .inl f))) (ht : tys[t0]? = some (cA, .char)) {i x : Int32} {k : Nat} (hk : i.toNatClampNeg = k) (hin : q_in i n) (hdg : decode cc pc = .ok (.castore, 1)) (kk : ∀ (H1 : Heap) (locs1 : List Loc), va_P D cl (ws.set q0 (a, .inl (cA, n, .inl (upd f k (vp_nar .char x))))) H1 → va_D A (ws.set q0 (a, .inl (cA, n, .inl (upd f k (vp_nar .char x))))) → va_S A H0 H1 locs1 → W p l e R s m args below meth c H1 locs1 cells slots Q (F0 m (pc + 1) ls rest)) : W p l e R s m args below meth c H locs cells slots Q (F0 m pc ls (.int x :: .int i :: .ref a :: rest)) := by
  subst hk
  exact va_cast hx hb hK hP hD hS q0 t0 ha ht hin hdg kk
theorem vi_bast (hx : p.tables.exec = Jvm.exec) (hb : c.code = cc) (hK : va_K D cl tys s) (hP : va_P D cl ws H) (hD : va_D A ws) (hS : va_S A H0 H locs) (q0 t0 : Nat) {cA : ClassId} {n : Nat} {f : Nat → Int32} (ha : ws[q0]? = some (a, .inl (cA, n, .inl f))) (ht : tys[t0]? = some (cA, .byte)) {i x : Int32} {k : Nat} (hk : i.toNatClampNeg = k) (hin : q_in i n) (hdg : decode cc pc = .ok (.bastore, 1)) (kk : ∀ (H1 : Heap) (locs1 : List Loc), va_P D cl (ws.set q0 (a, .inl (cA, n, .inl (upd f k (vp_nar .byte x))))) H1 → va_D A (ws.set q0 (a, .inl (cA, n, .inl (upd f k (vp_nar .byte x))))) → va_S A H0 H1 locs1 → W p l e R s m args below meth c H1 locs1 cells slots Q (F0 m (pc + 1) ls rest)) : W p l e R s m args below meth c H locs cells slots Q (F0 m pc ls (.int x :: .int i :: .ref a :: rest)) := by
  subst hk
  exact va_bast hx hb hK hP hD hS q0 t0 ha ht hin hdg kk
theorem vj_iast (hx : p.tables.exec = Jvm.exec) (hb : c.code = cc) (hK : va_K D cl tys s) (hP : va_P D cl ws H) (hD : va_D A ws) (hS : va_S A H0 H locs) (q0 t0 : Nat) {cA : ClassId} {n : Nat} {f : Nat → Int32} (ha : ws[q0]? = some (a, .inl (cA, n, .inl f))) (ht : tys[t0]? = some (cA, .int)) {i x : Int32} {k : Nat} (hk : i.toNatClampNeg = k) (hin : q_in i n) (hdg : decode cc pc = .ok (.iastore, 1)) (kk : ∀ (u : Nat → Int32), u = upd f k x → ∀ (H1 : Heap) (locs1 : List Loc), va_P D cl (ws.set q0 (a, .inl (cA, n, .inl u))) H1 → va_D A (ws.set q0 (a, .inl (cA, n, .inl u))) → va_S A H0 H1 locs1 → W p l e R s m args below meth c H1 locs1 cells slots Q (F0 m (pc + 1) ls rest)) : W p l e R s m args below meth c H locs cells slots Q (F0 m pc ls (.int x :: .int i :: .ref a :: rest)) :=
  vi_iast hx hb hK hP hD hS q0 t0 ha ht hk hin hdg (kk _ rfl)
theorem vj_cast (hx : p.tables.exec = Jvm.exec) (hb : c.code = cc) (hK : va_K D cl tys s) (hP : va_P D cl ws H) (hD : va_D A ws) (hS : va_S A H0 H locs) (q0 t0 : Nat) {cA : ClassId} {n : Nat} {f : Nat → Int32} (ha : ws[q0]? = some (a, .inl (cA, n, .inl f))) (ht : tys[t0]? = some (cA, .char)) {i x : Int32} {k : Nat} (hk : i.toNatClampNeg = k) (hin : q_in i n) (hdg : decode cc pc = .ok (.castore, 1)) (kk : ∀ (u : Nat → Int32), u = upd f k (vp_nar .char x) → ∀ (H1 : Heap) (locs1 : List Loc), va_P D cl (ws.set q0 (a, .inl (cA, n, .inl u))) H1 → va_D A (ws.set q0 (a, .inl (cA, n, .inl u))) → va_S A H0 H1 locs1 → W p l e R s m args below meth c H1 locs1 cells slots Q (F0 m (pc + 1) ls rest)) : W p l e R s m args below meth c H locs cells slots Q (F0 m pc ls (.int x :: .int i :: .ref a :: rest)) :=
  vi_cast hx hb hK hP hD hS q0 t0 ha ht hk hin hdg (kk _ rfl)
theorem vj_bast (hx : p.tables.exec = Jvm.exec) (hb : c.code = cc) (hK : va_K D cl tys s) (hP : va_P D cl ws H) (hD : va_D A ws) (hS : va_S A H0 H locs) (q0 t0 : Nat) {cA : ClassId} {n : Nat} {f : Nat → Int32} (ha : ws[q0]? = some (a, .inl (cA, n, .inl f))) (ht : tys[t0]? = some (cA, .byte)) {i x : Int32} {k : Nat} (hk : i.toNatClampNeg = k) (hin : q_in i n) (hdg : decode cc pc = .ok (.bastore, 1)) (kk : ∀ (u : Nat → Int32), u = upd f k (vp_nar .byte x) → ∀ (H1 : Heap) (locs1 : List Loc), va_P D cl (ws.set q0 (a, .inl (cA, n, .inl u))) H1 → va_D A (ws.set q0 (a, .inl (cA, n, .inl u))) → va_S A H0 H1 locs1 → W p l e R s m args below meth c H1 locs1 cells slots Q (F0 m (pc + 1) ls rest)) : W p l e R s m args below meth c H locs cells slots Q (F0 m pc ls (.int x :: .int i :: .ref a :: rest)) :=
  vi_bast hx hb hK hP hD hS q0 t0 ha ht hk hin hdg (kk _ rfl)
theorem vi_copy (hx : p.tables.exec = Jvm.exec) (hb : c.code = cc) (hml : c.maxLocals = ls.size) {own : String} {index : Nat} (hown : s.vm.findClass own = some m.cls) (hlink : (Cond.methodLink own index arraycopyName).before args s = true) (hnat : (Cond.native arraycopyName).before args s = true) (hstat : (Cond.static arraycopyName).before args s = true) (hini : (Cond.initialized "java/lang/System").before args s = true) (hK : va_K D cl tys s) (hP : va_P D cl ws H) (hD : va_D A ws) (hS : va_S A H0 H locs) (q0 q1 t0 : Nat) {a0 : Nat} {c0 : ClassId} {n0 n1 : Nat} {f g : Nat → Int32} {ty : FieldType} (ha0 : ws[q0]? = some (a0, .inl (c0, n0, .inl f))) (ha1 : ws[q1]? = some (a, .inl (c0, n1, .inl g))) (ht0 : tys[t0]? = some (c0, ty)) (hprim : refKind ty = false) {sp dp n : Int32} {k0 k1 kn : Nat} (e0 : sp.toNatClampNeg = k0) (e1 : dp.toNatClampNeg = k1) (en : n.toNatClampNeg = kn) (h1 : ¬ sp < 0) (h2 : ¬ dp < 0) (h3 : ¬ n < 0) (h4 : k0 + kn ≤ n0) (h5 : k1 + kn ≤ n1) (hfit : ∀ i, i < kn → fits ty (.int (f (k0 + i))) = true) (hframes : 1 ≤ R.frames) (hlocals : (rest.map fun v => v.category).sum + (nativeFrameWords "java/lang/System" "arraycopy" 5 + 11) ≤ R.locals) (hdg : decode cc pc = .ok (.invokestatic index, 3)) (kk : ∀ (H1 : Heap) (locs1 : List Loc), va_P D cl (ws.set q1 (a, .inl (c0, n1, .inl (va_cpy f g k0 k1 kn)))) H1 → va_D A (ws.set q1 (a, .inl (c0, n1, .inl (va_cpy f g k0 k1 kn)))) → va_S A H0 H1 locs1 → W p l e R s m args below meth c H1 locs1 cells slots Q (F0 m (pc + 3) ls rest)) : W p l e R s m args below meth c H locs cells slots Q (F0 m pc ls (.int n :: .int dp :: .ref a :: .int sp :: .ref a0 :: rest)) := by
  subst e0 e1 en
  exact va_copyi hx hb hml hown hlink hnat hstat hini hK hP hD hS q0 q1 t0 t0 ha0 ha1 ht0 ht0 hprim h1 h2 h3 h4 h5 hfit hframes hlocals hdg kk
theorem vi_tbl (hx : p.tables.exec = Jvm.exec) (hb : c.code = cc) {E : ET} {t n : Nat} {L : List Int32} (hst : ST E s) (hT : (FieldType.int, t, n, fun j => Value.int (L.getD j 0)) ∈ tsL E) (hz : ∀ q, A q → E.2 0 ≤ q) (hS : va_S A s.heap H locs) {i : Int32} {k : Nat} (hk : i.toNatClampNeg = k) (hin : q_in i n) (hdg : decode cc pc = .ok (.iaload, 1)) (kk : W p l e R s m args below meth c H locs cells slots Q (F0 m (pc + 1) ls (.int (L.getD k 0) :: rest))) : W p l e R s m args below meth c H locs cells slots Q (F0 m pc ls (.int i :: .ref t :: rest)) := by
  subst hk
  exact va_ti hx hb (va_T.narrow (hst.2.2.2.2.1 _ hT) hz) hS hin rfl hdg kk
end QOP
theorem mz0 (E : ET) : (RX10, "CONSONANCES", "[I", Value.ref (E.2 10)) ∈ zsL E := List.mem_of_getElem? (i := 0) rfl
theorem mz1 (E : ET) : (RX10, "THIRDS", "[I", Value.ref (E.2 11)) ∈ zsL E := List.mem_of_getElem? (i := 1) rfl
theorem mz2 (E : ET) : (RX6, "MAJOR", "[I", Value.ref (E.2 12)) ∈ zsL E := List.mem_of_getElem? (i := 2) rfl
theorem mz3 (E : ET) : (RX6, "MINOR", "[I", Value.ref (E.2 13)) ∈ zsL E := List.mem_of_getElem? (i := 3) rfl
theorem mz4 (E : ET) : (RX0, "$SwitchMap$ValleyBells$Command", "[I", Value.ref (E.2 14)) ∈ zsL E := List.mem_of_getElem? (i := 4) rfl
theorem mt0 (E : ET) : (FieldType.int, E.2 10, 12, fun j => Value.int (tb_cons.getD j 0)) ∈ tsL E := List.mem_of_getElem? (i := 0) rfl
theorem mt1 (E : ET) : (FieldType.int, E.2 11, 12, fun j => Value.int (tb_thirds.getD j 0)) ∈ tsL E := List.mem_of_getElem? (i := 1) rfl
theorem mt2 (E : ET) : (FieldType.int, E.2 12, 12, fun j => Value.int (tb_major.getD j 0)) ∈ tsL E := List.mem_of_getElem? (i := 2) rfl
theorem mt3 (E : ET) : (FieldType.int, E.2 13, 12, fun j => Value.int (tb_minor.getD j 0)) ∈ tsL E := List.mem_of_getElem? (i := 3) rfl
theorem mt4 (E : ET) : (FieldType.int, E.2 14, 12, fun j => Value.int (tb_switch.getD j 0)) ∈ tsL E := List.mem_of_getElem? (i := 4) rfl
theorem gi_T {big : List Cond} {own : String} {idx : Nat} {y : MethodName} {b : ByteArray} {n : Nat} {r : Option FieldType} (hb : ∀ w ∈ lw_all, w ∈ big) (h1 : Cond.methodLink own idx y ∈ lw_all) (h2 : Cond.static y ∈ lw_all) (h4 : Cond.initialized y.cls ∈ lw_all) (h5 : Cond.code y b n r ∈ lw_all) : GoodIn big (va_wsS own idx y (mws y b n r)) := by
  intro w hw
  rcases List.mem_append.mp hw with h | h
  · have h : w ∈ lw_all := by
      simp only [List.mem_cons, List.not_mem_nil, or_false] at h
      rcases h with rfl | rfl | rfl
      · exact h1
      · exact h2
      · exact h4
    exact ⟨hb w h, good_of_word (lwg h)⟩
  · exact gi_B hb h5 w h
section QEN2
variable {p : Program} {l : Launch} {e : Env} {R : Room} {s : State} {m : MethodId} {args : Array Value} {below : List Frame} {meth : Method} {c : Code} {H : Heap} {locs : List Loc} {mc ms cells slots : Nat} {pc : Nat} {ls : Array Slot} {A : Nat → Prop} {E : ET} {L' : List va_W} {cc : ByteArray} {Q : State → Prop}
theorem en_j {v rv : Int64} (hQ : Q = MQ below (va_Ql (fun r (_ : Unit) => r = rv) (fun _ t => PstW E A L' t) A) args s mc ms A) (hc : cells ≤ mc) (hs : slots ≤ ms) (hx : p.tables.exec = Jvm.exec) (hb : c.code = cc) (hr : meth.sig.returnType = some .long) (hlocks : meth.locks = false) (hP : va_P E.1 vwCl L'.flatten H) (hD : va_D A L'.flatten) (hS : va_S A s.heap H locs) (hrv : v = rv) (hdg : decode cc pc = .ok (.lreturn, 1)) :
    W p l e R s m args below meth c H locs cells slots Q (F0 m pc ls [.long v]) := by
  refine W.widen hc hs ?_
  rw [hQ]
  exact W.lret (v := v) hx hb hr (fun t ht hW => ⟨⟨v, (), rfl, hrv, (show PstW E A L' t from ⟨by rw [ht]; exact hP, hD⟩)⟩, hS.F ht⟩) hS.2.2 hdg hlocks
theorem en_d {v rv : UInt64} (hQ : Q = MQ below (va_Qd (fun r (_ : Unit) => r = rv) (fun _ t => PstW E A L' t) A) args s mc ms A) (hc : cells ≤ mc) (hs : slots ≤ ms) (hx : p.tables.exec = Jvm.exec) (hb : c.code = cc) (hr : meth.sig.returnType = some .double) (hlocks : meth.locks = false) (hP : va_P E.1 vwCl L'.flatten H) (hD : va_D A L'.flatten) (hS : va_S A s.heap H locs) (hrv : v = rv) (hdg : decode cc pc = .ok (.dreturn, 1)) :
    W p l e R s m args below meth c H locs cells slots Q (F0 m pc ls [.double v]) := by
  refine W.widen hc hs ?_
  rw [hQ]
  exact W.dret (v := v) hx hb hr (fun t ht hW => ⟨⟨v, (), rfl, hrv, (show PstW E A L' t from ⟨by rw [ht]; exact hP, hD⟩)⟩, hS.F ht⟩) hS.2.2 hdg hlocks
theorem en_f {v rv : UInt32} (hQ : Q = MQ below (va_Qf (fun r (_ : Unit) => r = rv) (fun _ t => PstW E A L' t) A) args s mc ms A) (hc : cells ≤ mc) (hs : slots ≤ ms) (hx : p.tables.exec = Jvm.exec) (hb : c.code = cc) (hr : meth.sig.returnType = some .float) (hlocks : meth.locks = false) (hP : va_P E.1 vwCl L'.flatten H) (hD : va_D A L'.flatten) (hS : va_S A s.heap H locs) (hrv : v = rv) (hdg : decode cc pc = .ok (.freturn, 1)) :
    W p l e R s m args below meth c H locs cells slots Q (F0 m pc ls [.float v]) := by
  refine W.widen hc hs ?_
  rw [hQ]
  exact W.fret (v := v) hx hb hr (fun t ht hW => ⟨⟨v, (), rfl, hrv, (show PstW E A L' t from ⟨by rw [ht]; exact hP, hD⟩)⟩, hS.F ht⟩) hS.2.2 hdg hlocks
end QEN2
/-- past all rows of a table -/
theorem sw_out {v : Int32} (lo hi : Int) (L : List Int32) (h : ∀ c ∈ L, ¬ v = c) (hL : (List.range L.length).all (fun k => decide (L[k]? = some (Int32.ofInt (lo + k)) ∧ (Int32.ofInt (lo + k)).toInt = lo + k)) = true) (hn : lo + L.length = hi + 1) : v.toInt < lo ∨ hi < v.toInt := by
  rcases Int.lt_or_le v.toInt lo with q | q
  · exact Or.inl q
  · rcases Int.lt_or_le hi v.toInt with q2 | q2
    · exact Or.inr q2
    · exfalso
      have hk : (v.toInt - lo).toNat < L.length := by omega
      have h2 := List.all_eq_true.mp hL _ (List.mem_range.mpr hk)
      simp only [decide_eq_true_eq] at h2
      have e : lo + ((v.toInt - lo).toNat : Int) = v.toInt := by omega
      rw [e] at h2
      refine h _ (List.mem_of_getElem? h2.1) ?_
      exact Int32.toInt_inj.mp h2.2.symm
theorem nz_c {v : Int32} (h : (v.toUInt32 % 65536).toInt32 = v) : narrow .char (.int v) = .int v := by
  have := pk_nc v
  rwa [h] at this
theorem ST.k {E : ET} {s : State} (h : ST E s) : va_K E.1 vwCl (tyL E) s := h.1
theorem ST.z {E : ET} {s : State} (h : ST E s) {q : String × String × String × Value} (m : q ∈ zsL E) : va_Z q.1 q.2.1 q.2.2.1 q.2.2.2 (zA E) s s.heap := h.2.2.2.1 q m
theorem nm0 {E : ET} {s : State} (h : ST E s) : va_Nw (.methodLinkNest RX10 9 yX9_init RX10) s := h.2.1 (RX10, 9, yX9_init, RX10) mn0
theorem nm1 {E : ET} {s : State} (h : ST E s) : va_Nw (.methodLinkNest RX9 11 yX6_init RX10) s := h.2.1 (RX9, 11, yX6_init, RX10) mn1
theorem nm2 {E : ET} {s : State} (h : ST E s) : va_Nw (.methodLinkNest RX9 20 yX1_init RX10) s := h.2.1 (RX9, 20, yX1_init, RX10) mn2
theorem nm3 {E : ET} {s : State} (h : ST E s) : va_Nw (.methodLinkNest RX9 27 yX7_init RX10) s := h.2.1 (RX9, 27, yX7_init, RX10) mn3
theorem nm4 {E : ET} {s : State} (h : ST E s) : va_Nw (.methodLinkNest RX9 34 yX3_init RX10) s := h.2.1 (RX9, 34, yX3_init, RX10) mn4
theorem nm5 {E : ET} {s : State} (h : ST E s) : va_Nw (.methodLinkNest RX5 22 yX9_init RX10) s := h.2.1 (RX5, 22, yX9_init, RX10) mn5
theorem nm6 {E : ET} {s : State} (h : ST E s) : va_Nw (.methodLinkNest RX10 28 yX8_init RX10) s := h.2.1 (RX10, 28, yX8_init, RX10) mn6
theorem nm7 {E : ET} {s : State} (h : ST E s) : va_Nw (.methodLinkNest RX10 35 yX2_init RX10) s := h.2.1 (RX10, 35, yX2_init, RX10) mn7
theorem nm8 {E : ET} {s : State} (h : ST E s) : va_Nw (.methodLinkNest RX10 42 yX6_init RX10) s := h.2.1 (RX10, 42, yX6_init, RX10) mn8
theorem nm9 {E : ET} {s : State} (h : ST E s) : va_Nw (.methodLinkNest RX1 32 yX10_isHerd RX10) s := h.2.1 (RX1, 32, yX10_isHerd, RX10) mn9
theorem nm10 {E : ET} {s : State} (h : ST E s) : va_Nw (.methodLinkNest RX1 28 yX10_isWithin RX10) s := h.2.1 (RX1, 28, yX10_isWithin, RX10) mn10
theorem nm11 {E : ET} {s : State} (h : ST E s) : va_Nw (.methodLinkNest RX6 22 yX10_isWithin RX10) s := h.2.1 (RX6, 22, yX10_isWithin, RX10) mn11
theorem nm12 {E : ET} {s : State} (h : ST E s) : va_Nw (.methodLinkNest RX6 37 yX10_nearest RX10) s := h.2.1 (RX6, 37, yX10_nearest, RX10) mn12
theorem nm13 {E : ET} {s : State} (h : ST E s) : va_Nw (.methodLinkNest RX6 33 yX10_belongs RX10) s := h.2.1 (RX6, 33, yX10_belongs, RX10) mn13
theorem nm14 {E : ET} {s : State} (h : ST E s) : va_Nw (.methodLinkNest RX6 45 yX10_offset RX10) s := h.2.1 (RX6, 45, yX10_offset, RX10) mn14
theorem nm15 {E : ET} {s : State} (h : ST E s) : va_Nw (.methodLinkNest RX7 31 yX10_isHerd RX10) s := h.2.1 (RX7, 31, yX10_isHerd, RX10) mn15
theorem nm16 {E : ET} {s : State} (h : ST E s) : va_Nw (.methodLinkNest RX7 27 yX10_isWithin RX10) s := h.2.1 (RX7, 27, yX10_isWithin, RX10) mn16
theorem nm17 {E : ET} {s : State} (h : ST E s) : va_Nw (.methodLinkNest RX3 28 yX10_isWithin RX10) s := h.2.1 (RX3, 28, yX10_isWithin, RX10) mn17
theorem nm18 {E : ET} {s : State} (h : ST E s) : va_Nw (.methodLinkNest RX1 50 yX10_nearest RX10) s := h.2.1 (RX1, 50, yX10_nearest, RX10) mn18
theorem nm19 {E : ET} {s : State} (h : ST E s) : va_Nw (.methodLinkNest RX1 54 yX10_offset RX10) s := h.2.1 (RX1, 54, yX10_offset, RX10) mn19
theorem nm20 {E : ET} {s : State} (h : ST E s) : va_Nw (.methodLinkNest RX2 24 yX10_isWithin RX10) s := h.2.1 (RX2, 24, yX10_isWithin, RX10) mn20
theorem nm21 {E : ET} {s : State} (h : ST E s) : va_Nw (.methodLinkNest RX2 75 yX10_belongs RX10) s := h.2.1 (RX2, 75, yX10_belongs, RX10) mn21
theorem nm22 {E : ET} {s : State} (h : ST E s) : va_Nw (.methodLinkNest RX8 104 yX10_isWithin RX10) s := h.2.1 (RX8, 104, yX10_isWithin, RX10) mn22
theorem nf0 {E : ET} {s : State} (h : ST E s) : va_Nw (.fieldLinkNest RX10 169 "ValleyBells$Key" "tonic" "I" RX10) s := h.2.2.1 (RX10, 169, "ValleyBells$Key", "tonic", "I", RX10) mf0
theorem nf1 {E : ET} {s : State} (h : ST E s) : va_Nw (.fieldLinkNest RX10 172 "ValleyBells$Key" "isMinor" "Z" RX10) s := h.2.2.1 (RX10, 172, "ValleyBells$Key", "isMinor", "Z", RX10) mf1
theorem nf2 {E : ET} {s : State} (h : ST E s) : va_Nw (.fieldLinkNest RX10 175 "ValleyBells$Key" "tolerance" "I" RX10) s := h.2.2.1 (RX10, 175, "ValleyBells$Key", "tolerance", "I", RX10) mf2
theorem nf3 {E : ET} {s : State} (h : ST E s) : va_Nw (.fieldLinkNest RX10 121 "ValleyBells$Bells" "herds" "[I" RX10) s := h.2.2.1 (RX10, 121, "ValleyBells$Bells", "herds", "[I", RX10) mf3
theorem nf4 {E : ET} {s : State} (h : ST E s) : va_Nw (.fieldLinkNest RX10 125 "ValleyBells$Bells" "pitches" "[I" RX10) s := h.2.2.1 (RX10, 125, "ValleyBells$Bells", "pitches", "[I", RX10) mf4
theorem nf5 {E : ET} {s : State} (h : ST E s) : va_Nw (.fieldLinkNest RX10 112 "ValleyBells$Bells" "count" "I" RX10) s := h.2.2.1 (RX10, 112, "ValleyBells$Bells", "count", "I", RX10) mf5
theorem nf6 {E : ET} {s : State} (h : ST E s) : va_Nw (.fieldLinkNest RX9 120 "ValleyBells$Melodies" "lengths" "[I" RX10) s := h.2.2.1 (RX9, 120, "ValleyBells$Melodies", "lengths", "[I", RX10) mf6
theorem nf7 {E : ET} {s : State} (h : ST E s) : va_Nw (.fieldLinkNest RX10 201 "ValleyBells$Melodies" "lengths" "[I" RX10) s := h.2.2.1 (RX10, 201, "ValleyBells$Melodies", "lengths", "[I", RX10) mf7
theorem nf8 {E : ET} {s : State} (h : ST E s) : va_Nw (.fieldLinkNest RX10 216 "ValleyBells$Melodies" "entries" "[I" RX10) s := h.2.2.1 (RX10, 216, "ValleyBells$Melodies", "entries", "[I", RX10) mf8
theorem nf9 {E : ET} {s : State} (h : ST E s) : va_Nw (.fieldLinkNest RX2 41 "ValleyBells$Cliffs" "delays" "[I" RX10) s := h.2.2.1 (RX2, 41, "ValleyBells$Cliffs", "delays", "[I", RX10) mf9
theorem nf10 {E : ET} {s : State} (h : ST E s) : va_Nw (.fieldLinkNest RX10 238 "ValleyBells$Cliffs" "delays" "[I" RX10) s := h.2.2.1 (RX10, 238, "ValleyBells$Cliffs", "delays", "[I", RX10) mf10
theorem nf11 {E : ET} {s : State} (h : ST E s) : va_Nw (.fieldLinkNest RX2 44 "ValleyBells$Cliffs" "transpositions" "[I" RX10) s := h.2.2.1 (RX2, 44, "ValleyBells$Cliffs", "transpositions", "[I", RX10) mf11
theorem nf12 {E : ET} {s : State} (h : ST E s) : va_Nw (.fieldLinkNest RX10 241 "ValleyBells$Cliffs" "transpositions" "[I" RX10) s := h.2.2.1 (RX10, 241, "ValleyBells$Cliffs", "transpositions", "[I", RX10) mf12
theorem nf13 {E : ET} {s : State} (h : ST E s) : va_Nw (.fieldLinkNest RX2 38 "ValleyBells$Cliffs" "count" "I" RX10) s := h.2.2.1 (RX2, 38, "ValleyBells$Cliffs", "count", "I", RX10) mf13
theorem nf14 {E : ET} {s : State} (h : ST E s) : va_Nw (.fieldLinkNest RX10 232 "ValleyBells$Cliffs" "count" "I" RX10) s := h.2.2.1 (RX10, 232, "ValleyBells$Cliffs", "count", "I", RX10) mf14
theorem nf15 {E : ET} {s : State} (h : ST E s) : va_Nw (.fieldLinkNest RX10 135 "ValleyBells$Valley" "key" "LValleyBells$Key;" RX10) s := h.2.2.1 (RX10, 135, "ValleyBells$Valley", "key", "LValleyBells$Key;", RX10) mf15
theorem nf16 {E : ET} {s : State} (h : ST E s) : va_Nw (.fieldLinkNest RX2 57 "ValleyBells$Valley" "bells" "LValleyBells$Bells;" RX10) s := h.2.2.1 (RX2, 57, "ValleyBells$Valley", "bells", "LValleyBells$Bells;", RX10) mf16
theorem nf17 {E : ET} {s : State} (h : ST E s) : va_Nw (.fieldLinkNest RX10 108 "ValleyBells$Valley" "bells" "LValleyBells$Bells;" RX10) s := h.2.2.1 (RX10, 108, "ValleyBells$Valley", "bells", "LValleyBells$Bells;", RX10) mf17
theorem nf18 {E : ET} {s : State} (h : ST E s) : va_Nw (.fieldLinkNest RX2 47 "ValleyBells$Valley" "melodies" "LValleyBells$Melodies;" RX10) s := h.2.2.1 (RX2, 47, "ValleyBells$Valley", "melodies", "LValleyBells$Melodies;", RX10) mf18
theorem nf19 {E : ET} {s : State} (h : ST E s) : va_Nw (.fieldLinkNest RX10 197 "ValleyBells$Valley" "melodies" "LValleyBells$Melodies;" RX10) s := h.2.2.1 (RX10, 197, "ValleyBells$Valley", "melodies", "LValleyBells$Melodies;", RX10) mf19
theorem nf20 {E : ET} {s : State} (h : ST E s) : va_Nw (.fieldLinkNest RX2 32 "ValleyBells$Valley" "cliffs" "LValleyBells$Cliffs;" RX10) s := h.2.2.1 (RX2, 32, "ValleyBells$Valley", "cliffs", "LValleyBells$Cliffs;", RX10) mf20
theorem nf21 {E : ET} {s : State} (h : ST E s) : va_Nw (.fieldLinkNest RX10 228 "ValleyBells$Valley" "cliffs" "LValleyBells$Cliffs;" RX10) s := h.2.2.1 (RX10, 228, "ValleyBells$Valley", "cliffs", "LValleyBells$Cliffs;", RX10) mf21
theorem nf22 {E : ET} {s : State} (h : ST E s) : va_Nw (.fieldLinkNest RX10 364 "ValleyBells$History" "count" "I" RX10) s := h.2.2.1 (RX10, 364, "ValleyBells$History", "count", "I", RX10) mf22
theorem nf23 {E : ET} {s : State} (h : ST E s) : va_Nw (.fieldLinkNest RX10 323 "ValleyBells$Program" "count" "I" RX10) s := h.2.2.1 (RX10, 323, "ValleyBells$Program", "count", "I", RX10) mf23
theorem nf24 {E : ET} {s : State} (h : ST E s) : va_Nw (.fieldLinkNest RX10 251 "ValleyBells$Chord" "notes" "[I" RX10) s := h.2.2.1 (RX10, 251, "ValleyBells$Chord", "notes", "[I", RX10) mf24
theorem nf25 {E : ET} {s : State} (h : ST E s) : va_Nw (.fieldLinkNest RX10 248 "ValleyBells$Chord" "size" "I" RX10) s := h.2.2.1 (RX10, 248, "ValleyBells$Chord", "size", "I", RX10) mf25
theorem nf26 {E : ET} {s : State} (h : ST E s) : va_Nw (.fieldLinkNest RX2 79 "ValleyBells" "CONSONANCES" "[I" RX10) s := h.2.2.1 (RX2, 79, "ValleyBells", "CONSONANCES", "[I", RX10) mf26
theorem nf27 {E : ET} {s : State} (h : ST E s) : va_Nw (.fieldLinkNest RX8 61 "ValleyBells" "COMMANDS" "[LValleyBells$Command;" RX10) s := h.2.2.1 (RX8, 61, "ValleyBells", "COMMANDS", "[LValleyBells$Command;", RX10) mf27
theorem nf28 {E : ET} {s : State} (h : ST E s) : va_Nw (.fieldLinkNest RX8 64 "ValleyBells$Command" "form" "Ljava/lang/String;" RX10) s := h.2.2.1 (RX8, 64, "ValleyBells$Command", "form", "Ljava/lang/String;", RX10) mf28
theorem sz0 {E : ET} {s : State} {A : Nat → Prop} (h : ST E s) (hz : ∀ q, A q → E.2 0 ≤ q) : va_Z RX10 "CONSONANCES" "[I" (.ref (E.2 10)) A s s.heap := va_Z.narrow (h.2.2.2.1 (RX10, "CONSONANCES", "[I", Value.ref (E.2 10)) (mz0 E)) hz
theorem sz1 {E : ET} {s : State} {A : Nat → Prop} (h : ST E s) (hz : ∀ q, A q → E.2 0 ≤ q) : va_Z RX10 "THIRDS" "[I" (.ref (E.2 11)) A s s.heap := va_Z.narrow (h.2.2.2.1 (RX10, "THIRDS", "[I", Value.ref (E.2 11)) (mz1 E)) hz
theorem sz2 {E : ET} {s : State} {A : Nat → Prop} (h : ST E s) (hz : ∀ q, A q → E.2 0 ≤ q) : va_Z RX6 "MAJOR" "[I" (.ref (E.2 12)) A s s.heap := va_Z.narrow (h.2.2.2.1 (RX6, "MAJOR", "[I", Value.ref (E.2 12)) (mz2 E)) hz
theorem sz3 {E : ET} {s : State} {A : Nat → Prop} (h : ST E s) (hz : ∀ q, A q → E.2 0 ≤ q) : va_Z RX6 "MINOR" "[I" (.ref (E.2 13)) A s s.heap := va_Z.narrow (h.2.2.2.1 (RX6, "MINOR", "[I", Value.ref (E.2 13)) (mz3 E)) hz
theorem sz4 {E : ET} {s : State} {A : Nat → Prop} (h : ST E s) (hz : ∀ q, A q → E.2 0 ≤ q) : va_Z RX0 "$SwitchMap$ValleyBells$Command" "[I" (.ref (E.2 14)) A s s.heap := va_Z.narrow (h.2.2.2.1 (RX0, "$SwitchMap$ValleyBells$Command", "[I", Value.ref (E.2 14)) (mz4 E)) hz
theorem ST.en {E : ET} {s : State} {A : Nat → Prop} (h : ST E s) (hz : ∀ q, A q → E.2 0 ≤ q) : va_En RX4 "LValleyBells$Command;" nm_cmd [("java/lang/Enum", "ordinal", "I", [0, 1, 2, 3, 4, 5, 6, 7, 8, 9, 10, 11])] (fun i => E.2 (100 + i)) A s s.heap := va_En.narrow h.2.2.2.2.2.1 hz
theorem ST.ef {E : ET} {s : State} {A : Nat → Prop} (h : ST E s) (hz : ∀ q, A q → E.2 0 ≤ q) : va_Ef 12 RX4 "form" "Ljava/lang/String;" (fun i => .ref (E.2 (200 + i))) (fun i => E.2 (100 + i)) A s s.heap := va_Ef.narrow h.2.2.2.2.2.2.1 hz
theorem ST.vs {E : ET} {s : State} {A : Nat → Prop} (h : ST E s) (hz : ∀ q, A q → E.2 0 ≤ q) : vk_S 27 (st_txt.map List.length) st_txt (fun i => E.2 (200 + i)) (fun i => E.2 (300 + i)) A s s.heap := vk_S.narrow h.2.2.2.2.2.2.2.1 hz
theorem ST.sr {E : ET} {s : State} (h : ST E s) {q : String × Nat × String × Nat} (m : q ∈ srL E) : vk_R q.1 q.2.1 q.2.2.1 q.2.2.2 s := h.2.2.2.2.2.2.2.2.1 q m
theorem ST.zu {E : ET} {s : State} {A : Nat → Prop} (h : ST E s) (hz : ∀ q, A q → E.2 0 ≤ q) : vx_Zq Bundle.tN "UNASSIGNED_STACK" Bundle.steD A s s.heap := vx_Zq.narrow h.2.2.2.2.2.2.2.2.2.1 hz
theorem ST.zn {E : ET} {s : State} {A : Nat → Prop} (h : ST E s) (hz : ∀ q, A q → E.2 0 ≤ q) : vx_Zq Bundle.tN "SUPPRESSED_SENTINEL" Bundle.listD A s s.heap := vx_Zq.narrow h.2.2.2.2.2.2.2.2.2.2.1 hz
theorem ST.nc {E : ET} {s : State} (h : ST E s) {q : String × String} (m : q ∈ ncL) : va_Nc q.1 q.2 s := h.2.2.2.2.2.2.2.2.2.2.2.1 q m
theorem ST.cs {E : ET} {s : State} (h : ST E s) {q : String} (m : q ∈ csL) : va_Nw (.castable q q) s := h.2.2.2.2.2.2.2.2.2.2.2.2.1 q m
theorem ST.av {E : ET} {s : State} (h : ST E s) : va_AO "ValleyBells$Valley" s := h.2.2.2.2.2.2.2.2.2.2.2.2.2.1
theorem ST.ac {E : ET} {s : State} (h : ST E s) : va_AO "ValleyBells$Command" s := h.2.2.2.2.2.2.2.2.2.2.2.2.2.2.1
theorem ST.zf {E : ET} {s : State} {A : Nat → Prop} (h : ST E s) (hz : ∀ q, A q → E.2 0 ≤ q) : va_Zq "jdk/internal/util/Preconditions" "SIOOBE_FORMATTER" "Ljava/util/function/BiFunction;" A s s.heap := va_Zq.narrow h.2.2.2.2.2.2.2.2.2.2.2.2.2.2.2.1 hz
theorem ST.dc {E : ET} {s : State} (h : ST E s) {x : MethodName} (m : x ∈ dcL) : va_Nw (.declares x) s := h.2.2.2.2.2.2.2.2.2.2.2.2.2.2.2.2.1 x m
theorem ST.at {E : ET} {s : State} (h : ST E s) {q : String × ClassId} (m : q ∈ atL E) : s.vm.findClass q.1 = some q.2 := h.2.2.2.2.2.2.2.2.2.2.2.2.2.2.2.2.2 q m
abbrev Key_t : Type := (Int32 × Int32 × Int32)
def w_Key (E : ET) (a : Nat → Nat) (o : Nat) (x : Key_t) : va_W := [(a o, .inr (7, [.int x.1, .int x.2.1, .int x.2.2]))]
def bl_Key (E : ET) (a : Nat → Nat) (o : Nat) (x : Key_t) : List va_W := [w_Key E a o x]
abbrev Bells_t : Type := ((Nat → Int32) × (Nat → Int32) × Int32)
def w_Bells (E : ET) (a : Nat → Nat) (o : Nat) (x : Bells_t) : va_W := [(a o, .inr (3, [.ref (a (o + 1)), .ref (a (o + 2)), .int x.2.2])), (a (o + 1), .inl (E.2 1, 12, .inl x.1)), (a (o + 2), .inl (E.2 1, 12, .inl x.2.1))]
def bl_Bells (E : ET) (a : Nat → Nat) (o : Nat) (x : Bells_t) : List va_W := [w_Bells E a o x]
abbrev Mel_t : Type := ((Nat → Int32) × (Nat → Int32) × (Nat → Int32))
def w_Mel (E : ET) (a : Nat → Nat) (o : Nat) (x : Mel_t) : va_W := [(a o, .inr (8, [.ref (a (o + 1)), .ref (a (o + 2)), .ref (a (o + 3))])), (a (o + 1), .inl (E.2 1, 4, .inl x.1)), (a (o + 2), .inl (E.2 1, 4, .inl x.2.1)), (a (o + 3), .inl (E.2 1, 32, .inl x.2.2))]
def bl_Mel (E : ET) (a : Nat → Nat) (o : Nat) (x : Mel_t) : List va_W := [w_Mel E a o x]
abbrev Cliffs_t : Type := ((Nat → Int32) × (Nat → Int32) × Int32)
def w_Cliffs (E : ET) (a : Nat → Nat) (o : Nat) (x : Cliffs_t) : va_W := [(a o, .inr (5, [.ref (a (o + 1)), .ref (a (o + 2)), .int x.2.2])), (a (o + 1), .inl (E.2 1, 4, .inl x.1)), (a (o + 2), .inl (E.2 1, 4, .inl x.2.1))]
def bl_Cliffs (E : ET) (a : Nat → Nat) (o : Nat) (x : Cliffs_t) : List va_W := [w_Cliffs E a o x]
abbrev Chord_t : Type := ((Nat → Int32) × (Nat → Int32) × Int32)
def w_Chord (E : ET) (a : Nat → Nat) (o : Nat) (x : Chord_t) : va_W := [(a o, .inr (4, [.ref (a (o + 1)), .ref (a (o + 2)), .int x.2.2])), (a (o + 1), .inl (E.2 1, 20, .inl x.1)), (a (o + 2), .inl (E.2 1, 12, .inl x.2.1))]
def bl_Chord (E : ET) (a : Nat → Nat) (o : Nat) (x : Chord_t) : List va_W := [w_Chord E a o x]
abbrev Prog_t : Type := (((Nat → Int32) × Int32 × (Nat → Option Nat) × (Nat → Int32)) × ((Nat → Int32) × Int32 × (Nat → Int32) × Int32) × (Int32 × Int32 × Int32))
def w_Prog (E : ET) (a : Nat → Nat) (o : Nat) (x : Prog_t) : va_W := [(a o, .inr (9, [.ref (a (o + 1)), .int x.1.2.1, .ref (a (o + 2)), .ref (a (o + 3)), .ref (a (o + 4)), .int x.2.1.2.1, .ref (a (o + 5)), .int x.2.1.2.2.2, .int x.2.2.1, .int x.2.2.2.1, .int x.2.2.2.2])), (a (o + 1), .inl (E.2 2, 60, .inl x.1.1)), (a (o + 2), .inl (E.2 5, 60, .inr (.inr (.inr (.inr (fun j => (x.1.2.2.1 j).map (fun i => E.2 (100 + i)))))))), (a (o + 3), .inl (E.2 1, 60, .inl x.1.2.2.2)), (a (o + 4), .inl (E.2 1, 60, .inl x.2.1.1)), (a (o + 5), .inl (E.2 1, 2, .inl x.2.1.2.2.1))]
def bl_Prog (E : ET) (a : Nat → Nat) (o : Nat) (x : Prog_t) : List va_W := [w_Prog E a o x]
def w_IntArr (E : ET) (a : Nat → Nat) (o : Nat) (n : Nat) (x : Nat → Int32) : va_W := [(a o, .inl (E.2 1, n, .inl x))]
def bl_IntArr (E : ET) (a : Nat → Nat) (o : Nat) (n : Nat) (x : Nat → Int32) : List va_W := [w_IntArr E a o n x]
def w_ByteArr (E : ET) (a : Nat → Nat) (o : Nat) (n : Nat) (x : Nat → Int32) : va_W := [(a o, .inl (E.2 3, n, .inl x))]
def bl_ByteArr (E : ET) (a : Nat → Nat) (o : Nat) (n : Nat) (x : Nat → Int32) : List va_W := [w_ByteArr E a o n x]
abbrev Valley_t : Type := Key_t × Bells_t × Mel_t × Cliffs_t
def w_ValleyR (a : Nat → Nat) (o : Nat) : va_W := [(a o, .inr (10, [.ref (a (o + 1)), .ref (a (o + 2)), .ref (a (o + 5)), .ref (a (o + 9))]))]
def bl_Valley (E : ET) (a : Nat → Nat) (o : Nat) (x : Valley_t) : List va_W := [w_ValleyR a o, w_Key E a (o + 1) x.1, w_Bells E a (o + 2) x.2.1, w_Mel E a (o + 5) x.2.2.1, w_Cliffs E a (o + 9) x.2.2.2]
