def lyX : Nat → mDesc := fun k => match k with
  | 0 => (3, 0, [some 1, some 24, some 43, some 62, some 66, some 68, some 71, none, none])
  | 1 => (3, 1, [none, none, none, none, some 2, some 3, some 4, some 5, some 6, some 7, some 8, some 9, some 14, some 19])
  | 2 => (0, 6, [])
  | 3 => (0, 6, [])
  | 4 => (0, 4, [])
  | 5 => (0, 4, [])
  | 6 => (0, 4, [])
  | 7 => (1, 4, [])
  | 8 => (0, 4, [])
  | 9 => (2, 4, [])
  | 10 => (0, 6, [])
  | 11 => (0, 6, [])
  | 12 => (0, 6, [])
  | 13 => (0, 6, [])
  | 14 => (2, 4, [])
  | 15 => (0, 6, [])
  | 16 => (0, 6, [])
  | 17 => (0, 6, [])
  | 18 => (0, 6, [])
  | 19 => (2, 4, [])
  | 20 => (0, 6, [])
  | 21 => (0, 6, [])
  | 22 => (0, 6, [])
  | 23 => (0, 6, [])
  | 24 => (3, 2, [some 1, some 25, some 26, some 27, some 28, some 33, some 38, some 39, some 41, none, none])
  | 25 => (0, 6, [])
  | 26 => (0, 6, [])
  | 27 => (0, 4, [])
  | 28 => (2, 4, [])
  | 29 => (0, 6, [])
  | 30 => (0, 6, [])
  | 31 => (0, 6, [])
  | 32 => (0, 6, [])
  | 33 => (2, 4, [])
  | 34 => (0, 6, [])
  | 35 => (0, 6, [])
  | 36 => (0, 6, [])
  | 37 => (0, 6, [])
  | 38 => (1, 6, [])
  | 39 => (3, 4, [none, some 40, none, none])
  | 40 => (0, 4, [])
  | 41 => (3, 4, [none, some 42, none, none])
  | 42 => (0, 4, [])
  | 43 => (3, 2, [some 1, some 44, some 45, some 46, some 47, some 52, some 57, some 58, some 60, none, none])
  | 44 => (0, 6, [])
  | 45 => (0, 6, [])
  | 46 => (0, 4, [])
  | 47 => (2, 4, [])
  | 48 => (0, 6, [])
  | 49 => (0, 6, [])
  | 50 => (0, 6, [])
  | 51 => (0, 6, [])
  | 52 => (2, 4, [])
  | 53 => (0, 6, [])
  | 54 => (0, 6, [])
  | 55 => (0, 6, [])
  | 56 => (0, 6, [])
  | 57 => (1, 6, [])
  | 58 => (3, 4, [none, some 59, none, none])
  | 59 => (0, 4, [])
  | 60 => (3, 4, [none, some 61, none, none])
  | 61 => (0, 4, [])
  | 62 => (3, 3, [some 63, some 64, some 65, none, none])
  | 63 => (0, 6, [])
  | 64 => (0, 6, [])
  | 65 => (0, 60, [])
  | 66 => (3, 4, [none, some 67, none, none])
  | 67 => (0, 4, [])
  | 68 => (3, 5, [none, some 69, some 70])
  | 69 => (0, 4, [])
  | 70 => (0, 4, [])
  | 71 => (3, 6, [none, some 72, some 73, none, some 80, some 81, some 82])
  | 72 => (0, 6, [])
  | 73 => (2, 6, [])
  | 74 => (0, 100, [])
  | 75 => (0, 100, [])
  | 76 => (0, 100, [])
  | 77 => (0, 100, [])
  | 78 => (0, 100, [])
  | 79 => (0, 100, [])
  | 80 => (0, 100, [])
  | 81 => (0, 100, [])
  | 82 => (0, 100, [])
  | _ => (0, 0, [])
theorem grX_9 : ∀ j, j < 4 → lyX (9 + 1 + j) = (0, 6, []) ∧ 9 + 1 + j < 83 := by decide
theorem grX_14 : ∀ j, j < 4 → lyX (14 + 1 + j) = (0, 6, []) ∧ 14 + 1 + j < 83 := by decide
theorem grX_19 : ∀ j, j < 4 → lyX (19 + 1 + j) = (0, 6, []) ∧ 19 + 1 + j < 83 := by decide
theorem grX_28 : ∀ j, j < 4 → lyX (28 + 1 + j) = (0, 6, []) ∧ 28 + 1 + j < 83 := by decide
theorem grX_33 : ∀ j, j < 4 → lyX (33 + 1 + j) = (0, 6, []) ∧ 33 + 1 + j < 83 := by decide
theorem grX_47 : ∀ j, j < 4 → lyX (47 + 1 + j) = (0, 6, []) ∧ 47 + 1 + j < 83 := by decide
theorem grX_52 : ∀ j, j < 4 → lyX (52 + 1 + j) = (0, 6, []) ∧ 52 + 1 + j < 83 := by decide
theorem grX_73 : ∀ j, j < 6 → lyX (73 + 1 + j) = (0, 100, []) ∧ 73 + 1 + j < 83 := by decide
abbrev isX_row (n k : Nat) : Prop := lyX k = (0, n, []) ∧ k < 83
abbrev isX_grid (n m k : Nat) : Prop := lyX k = (2, n, []) ∧ k < 83 ∧ ∀ j, j < n → lyX (k + 1 + j) = (0, m, []) ∧ k + 1 + j < 83
def relX_S (b : Nat) : Nat → mDesc := fun j => match j with
  | 0 => (3, 2, [some 1, some (b + 1), some (b + 2), some (b + 3), some (b + 4), some (b + 9), some (b + 14), some (b + 15), some (b + 17), none, none])
  | 1 => (0, 6, [])
  | 2 => (0, 6, [])
  | 3 => (0, 4, [])
  | 4 => (2, 4, [])
  | 5 => (0, 6, [])
  | 6 => (0, 6, [])
  | 7 => (0, 6, [])
  | 8 => (0, 6, [])
  | 9 => (2, 4, [])
  | 10 => (0, 6, [])
  | 11 => (0, 6, [])
  | 12 => (0, 6, [])
  | 13 => (0, 6, [])
  | 14 => (1, 6, [])
  | 15 => (3, 4, [none, some (b + 16), none, none])
  | 16 => (0, 4, [])
  | 17 => (3, 4, [none, some (b + 18), none, none])
  | _ => (0, 4, [])
def isX_S (b : Nat) : Prop := ∀ j, j < 19 → lyX (b + j) = relX_S b j ∧ b + j < 83
theorem isX_S_24 : isX_S 24 := by unfold isX_S; decide
theorem isX_S_43 : isX_S 43 := by unfold isX_S; decide
theorem grX_S_4 {b : Nat} (h : isX_S b) : ∀ j, j < 4 → lyX ((b + 4) + 1 + j) = (0, 6, []) ∧ (b + 4) + 1 + j < 83 := fun j hj => match j, hj with
  | 0, _ => h 5 (by decide)
  | 1, _ => h 6 (by decide)
  | 2, _ => h 7 (by decide)
  | 3, _ => h 8 (by decide)
  | j + 4, hj => absurd hj (by omega)
theorem grX_S_9 {b : Nat} (h : isX_S b) : ∀ j, j < 4 → lyX ((b + 9) + 1 + j) = (0, 6, []) ∧ (b + 9) + 1 + j < 83 := fun j hj => match j, hj with
  | 0, _ => h 10 (by decide)
  | 1, _ => h 11 (by decide)
  | 2, _ => h 12 (by decide)
  | 3, _ => h 13 (by decide)
  | j + 4, hj => absurd hj (by omega)
def relX_X (b : Nat) : Nat → mDesc := fun j => match j with
  | 0 => (3, 4, [none, some (b + 1), none, none])
  | _ => (0, 4, [])
def isX_X (b : Nat) : Prop := ∀ j, j < 2 → lyX (b + j) = relX_X b j ∧ b + j < 83
theorem isX_X_39 : isX_X 39 := by unfold isX_X; decide
theorem isX_X_41 : isX_X 41 := by unfold isX_X; decide
theorem isX_X_58 : isX_X 58 := by unfold isX_X; decide
theorem isX_X_60 : isX_X 60 := by unfold isX_X; decide
theorem isX_X_66 : isX_X 66 := by unfold isX_X; decide
theorem isX_X_b_15 {b : Nat} (h : isX_S b) : isX_X (b + 15) := fun j hj => match j, hj with
  | 0, _ => h 15 (by decide)
  | 1, _ => h 16 (by decide)
  | j + 2, hj => absurd hj (by omega)
theorem isX_X_b_17 {b : Nat} (h : isX_S b) : isX_X (b + 17) := fun j hj => match j, hj with
  | 0, _ => h 17 (by decide)
  | 1, _ => h 18 (by decide)
  | j + 2, hj => absurd hj (by omega)
def lyM : Nat → mDesc := fun k => match k with
  | 0 => (3, 7, [none, some 1, some 2, none, some 3, some 4, some 5, some 6, some 7, some 8, some 9, none, none, none, some 10, none, some 11, some 12, none, some 13, some 14, some 15, none, none, none, none, none, some 16, none, some 17, some 18, none, none, some 19, some 20, some 21, some 22])
  | 1 => (0, 6, [])
  | 2 => (0, 6, [])
  | 3 => (0, 4, [])
  | 4 => (0, 4, [])
  | 5 => (0, 4, [])
  | 6 => (1, 4, [])
  | 7 => (0, 4, [])
  | 8 => (0, 24, [])
  | 9 => (0, 24, [])
  | 10 => (0, 60, [])
  | 11 => (0, 6, [])
  | 12 => (0, 6, [])
  | 13 => (0, 4, [])
  | 14 => (0, 4, [])
  | 15 => (0, 4, [])
  | 16 => (1, 6, [])
  | 17 => (0, 4, [])
  | 18 => (0, 4, [])
  | 19 => (0, 100, [])
  | 20 => (0, 100, [])
  | 21 => (0, 100, [])
  | 22 => (0, 100, [])
  | _ => (0, 0, [])
abbrev isM_row (n k : Nat) : Prop := lyM k = (0, n, []) ∧ k < 23
abbrev isM_grid (n m k : Nat) : Prop := lyM k = (2, n, []) ∧ k < 23 ∧ ∀ j, j < n → lyM (k + 1 + j) = (0, m, []) ∧ k + 1 + j < 23
abbrev zX (D : va_G) (ad : Nat → Nat) (c3 : ClassId × ClassId × ClassId) (s : State) (H : Heap) (locs : List Loc) (M : mMem) : Prop := mZ vCl D lyX 83 ad c3 s.heap H locs M
abbrev kIX (l : Launch) (D : va_G) (ad : Nat → Nat) (c3 : ClassId × ClassId × ClassId) (y : MethodName) (w : List Cond) (rm : Room) (av : List Value) (M : mMem) (r : Int32) (M' : mMem) : Prop := mKI vCl nwX lyX 83 l D ad c3 y w rm av M r M'
abbrev kPX (l : Launch) (D : va_G) (ad : Nat → Nat) (c3 : ClassId × ClassId × ClassId) (y : MethodName) (w : List Cond) (rm : Room) (av : List Value) (M : mMem) (r : Int32) : Prop := mKI vCl nwX lyX 83 l D ad c3 y w rm av M r M
abbrev kVX (l : Launch) (D : va_G) (ad : Nat → Nat) (c3 : ClassId × ClassId × ClassId) (y : MethodName) (w : List Cond) (rm : Room) (av : List Value) (M : mMem) (M' : mMem) : Prop := mKV vCl nwX lyX 83 l D ad c3 y w rm av M M'
abbrev zM (D : va_G) (ad : Nat → Nat) (c3 : ClassId × ClassId × ClassId) (s : State) (H : Heap) (locs : List Loc) (M : mMem) : Prop := mZ vCl D lyM 23 ad c3 s.heap H locs M
abbrev kIM (l : Launch) (D : va_G) (ad : Nat → Nat) (c3 : ClassId × ClassId × ClassId) (y : MethodName) (w : List Cond) (rm : Room) (av : List Value) (M : mMem) (r : Int32) (M' : mMem) : Prop := mKI vCl nwM lyM 23 l D ad c3 y w rm av M r M'
abbrev kPM (l : Launch) (D : va_G) (ad : Nat → Nat) (c3 : ClassId × ClassId × ClassId) (y : MethodName) (w : List Cond) (rm : Room) (av : List Value) (M : mMem) (r : Int32) : Prop := mKI vCl nwM lyM 23 l D ad c3 y w rm av M r M
abbrev kVM (l : Launch) (D : va_G) (ad : Nat → Nat) (c3 : ClassId × ClassId × ClassId) (y : MethodName) (w : List Cond) (rm : Room) (av : List Value) (M : mMem) (M' : mMem) : Prop := mKV vCl nwM lyM 23 l D ad c3 y w rm av M M'
