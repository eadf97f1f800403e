/-! ===== the object graph, and what every int keeps to ===== -/
section GRAPH
abbrev anyI : Int × Int := (-2147483648, 2147483647)
abbrev anyL : Int × Int := (-9223372036854775808, 9223372036854775807)
def sc34 (j : Nat) : Int × Int := if j % 34 < 8 then (0, 9) else anyI
def as18 (j : Nat) : Int × Int := if j % 18 < 8 then (0, 9) else anyI
def kn (j : Nat) : Int × Int := if j < 8 then ([anyI, (0, 10), (0, 8), (0, 20), (0, 6), anyI, (0, 900), (0, 12)] : List (Int × Int)).getD j anyI else if j < 16 then (0, 9) else if j < 50 then anyI else if j < 150 then (0, 2) else if j < 168 then (if j % 3 = 0 then (0, 999) else if j % 3 = 1 then (0, 7) else (-9, 9)) else if j < 384 then as18 (j - 168) else (0, 1999)
def kn3 (j : Nat) : Int × Int := kn (j % 1300)
def Gs : List ((Nat × List (Option Nat)) ⊕ (Nat × Nat × Bool) ⊕ (Nat × List Nat)) := [.inl (11, [some 1, none, some 2, some 18, some 35, some 40, some 42, some 43, some 44, some 45, some 49, some 57, some 58, none]), .inr (.inl (0, 900, false)), .inl (9, [none, none, none, none, none, some 3, some 4, some 5, some 6, some 7, some 8, some 9, none, some 10, some 11, some 12, some 13, some 14]), .inr (.inl (1, 10, false)), .inr (.inl (1, 10, false)), .inr (.inl (1, 100, false)), .inr (.inl (1, 8, false)), .inr (.inl (1, 8, false)), .inr (.inl (1, 8, false)), .inr (.inl (1, 8, false)), .inr (.inl (1, 6, false)), .inr (.inl (1, 6, false)), .inr (.inl (1, 6, false)), .inr (.inl (1, 6, false)), .inl (2, [some 15, none, none, some 16, some 17]), .inr (.inl (1, 900, false)), .inr (.inl (1, 64, false)), .inr (.inl (1, 8, false)), .inl (6, [some 19, none, none, some 1, none, none, none, none, none]), .inl (9, [none, none, none, none, none, some 20, some 21, some 22, some 23, some 24, some 25, some 26, none, some 27, some 28, some 29, some 30, some 31]), .inr (.inl (1, 10, false)), .inr (.inl (1, 10, false)), .inr (.inl (1, 100, false)), .inr (.inl (1, 8, false)), .inr (.inl (1, 8, false)), .inr (.inl (1, 8, false)), .inr (.inl (1, 8, false)), .inr (.inl (1, 6, false)), .inr (.inl (1, 6, false)), .inr (.inl (1, 6, false)), .inr (.inl (1, 6, false)), .inl (2, [some 32, none, none, some 33, some 34]), .inr (.inl (1, 900, false)), .inr (.inl (1, 64, false)), .inr (.inl (1, 8, false)), .inl (7, [some 2, some 36, some 37, some 38, some 39, none, none]), .inr (.inl (1, 8, false)), .inr (.inl (1, 8, false)), .inr (.inl (1, 8, false)), .inr (.inl (1, 8, false)), .inl (4, [none, none, some 41]), .inr (.inl (1, 408, false)), .inr (.inl (1, 34, false)), .inr (.inr (4, [63, 83, 103])), .inr (.inr (5, [123, 125, 127, 129])), .inl (5, [some 2, some 35, some 46, none, none, some 47, some 48, none, none]), .inr (.inl (1, 72, false)), .inr (.inl (1, 8, false)), .inr (.inl (1, 8, false)), .inl (0, [some 2, some 35, some 50, some 51, some 52, none, some 53, none, none, some 54, some 55, some 56, none]), .inr (.inl (1, 64, false)), .inr (.inl (1, 8, false)), .inr (.inl (2, 4, true)), .inr (.inl (1, 4, false)), .inr (.inl (1, 8, false)), .inr (.inl (1, 6, false)), .inr (.inl (1, 6, false)), .inl (3, [some 2, some 35]), .inl (8, [some 2, some 35, some 59, none, some 60, some 61, some 62, none, none]), .inr (.inl (1, 10, false)), .inr (.inl (1, 10, false)), .inr (.inl (1, 2048, false)), .inr (.inl (1, 8, false)), .inl (1, [none, some 64, some 80, some 81]), .inl (9, [none, none, none, none, none, some 65, some 66, some 67, some 68, some 69, some 70, some 71, none, some 72, some 73, some 74, some 75, some 76]), .inr (.inl (1, 10, false)), .inr (.inl (1, 10, false)), .inr (.inl (1, 100, false)), .inr (.inl (1, 8, false)), .inr (.inl (1, 8, false)), .inr (.inl (1, 8, false)), .inr (.inl (1, 8, false)), .inr (.inl (1, 6, false)), .inr (.inl (1, 6, false)), .inr (.inl (1, 6, false)), .inr (.inl (1, 6, false)), .inl (2, [some 77, none, none, some 78, some 79]), .inr (.inl (1, 900, false)), .inr (.inl (1, 64, false)), .inr (.inl (1, 8, false)), .inr (.inl (1, 34, false)), .inl (4, [none, none, some 82]), .inr (.inl (1, 408, false)), .inl (1, [none, some 84, some 100, some 101]), .inl (9, [none, none, none, none, none, some 85, some 86, some 87, some 88, some 89, some 90, some 91, none, some 92, some 93, some 94, some 95, some 96]), .inr (.inl (1, 10, false)), .inr (.inl (1, 10, false)), .inr (.inl (1, 100, false)), .inr (.inl (1, 8, false)), .inr (.inl (1, 8, false)), .inr (.inl (1, 8, false)), .inr (.inl (1, 8, false)), .inr (.inl (1, 6, false)), .inr (.inl (1, 6, false)), .inr (.inl (1, 6, false)), .inr (.inl (1, 6, false)), .inl (2, [some 97, none, none, some 98, some 99]), .inr (.inl (1, 900, false)), .inr (.inl (1, 64, false)), .inr (.inl (1, 8, false)), .inr (.inl (1, 34, false)), .inl (4, [none, none, some 102]), .inr (.inl (1, 408, false)), .inl (1, [none, some 104, some 120, some 121]), .inl (9, [none, none, none, none, none, some 105, some 106, some 107, some 108, some 109, some 110, some 111, none, some 112, some 113, some 114, some 115, some 116]), .inr (.inl (1, 10, false)), .inr (.inl (1, 10, false)), .inr (.inl (1, 100, false)), .inr (.inl (1, 8, false)), .inr (.inl (1, 8, false)), .inr (.inl (1, 8, false)), .inr (.inl (1, 8, false)), .inr (.inl (1, 6, false)), .inr (.inl (1, 6, false)), .inr (.inl (1, 6, false)), .inr (.inl (1, 6, false)), .inl (2, [some 117, none, none, some 118, some 119]), .inr (.inl (1, 900, false)), .inr (.inl (1, 64, false)), .inr (.inl (1, 8, false)), .inr (.inl (1, 34, false)), .inl (4, [none, none, some 122]), .inr (.inl (1, 408, false)), .inl (10, [none, none, some 124]), .inr (.inl (2, 30, true)), .inl (10, [none, none, some 126]), .inr (.inl (2, 30, true)), .inl (10, [none, none, some 128]), .inr (.inl (2, 30, true)), .inl (10, [none, none, some 130]), .inr (.inl (2, 30, true)), .inl (12, [some 132, some 133, some 134, some 135, none, some 136, none, none, none, none, none, none, none, none, none, none, none, some 137, some 138, none, some 139, some 140, none, none, none, none, none, none, none, some 141, some 142, none, none, some 143, some 144, none, none, some 145, some 146, some 147, none, some 148, some 149, some 150]), .inr (.inl (1, 1300, false)), .inr (.inl (1, 1300, false)), .inr (.inl (1, 3900, false)), .inr (.inl (3, 3, false)), .inr (.inl (1, 900, false)), .inr (.inl (1, 64, false)), .inr (.inl (1, 18, false)), .inr (.inl (1, 8, false)), .inr (.inl (1, 8, false)), .inr (.inl (1, 6, false)), .inr (.inl (1, 6, false)), .inr (.inl (1, 8, false)), .inr (.inl (1, 8, false)), .inr (.inl (1, 10, false)), .inr (.inl (1, 4, false)), .inr (.inl (1, 4, false)), .inr (.inl (1, 4, false)), .inr (.inl (1, 4, false)), .inr (.inl (2, 120, true)), .inr (.inl (2, 1, true))]
def Bs : List (Nat → Int × Int) := [fun j => ([anyI, (0, 900), anyI, anyI, anyI, anyI, anyI, anyI, anyI, anyI, anyI, anyI, anyI, anyI] : List (Int × Int)).getD j anyI, fun _ => (-128, 127), fun j => ([anyI, (0, 10), anyI, (0, 8), (0, 6), anyI, anyI, anyI, anyI, anyI, anyI, anyI, anyI, anyI, anyI, anyI, anyI, anyI] : List (Int × Int)).getD j anyI, fun _ => anyI, fun _ => anyI, fun _ => anyI, fun _ => (0, 9), fun _ => anyI, fun _ => anyI, fun _ => anyI, fun _ => anyI, fun _ => (0, 7), fun _ => anyI, fun _ => (0, 5), fun j => ([anyI, (0, 900), anyI, anyI, anyI] : List (Int × Int)).getD j anyI, fun _ => anyI, fun _ => anyI, fun _ => anyI, fun j => ([anyI, anyI, anyI, anyI, (0, 900), (0, 900), (0, 900), (0, 4), anyI] : List (Int × Int)).getD j anyI, fun j => ([anyI, (0, 10), anyI, (0, 8), (0, 6), anyI, anyI, anyI, anyI, anyI, anyI, anyI, anyI, anyI, anyI, anyI, anyI, anyI] : List (Int × Int)).getD j anyI, fun _ => anyI, fun _ => anyI, fun _ => anyI, fun _ => (0, 9), fun _ => anyI, fun _ => anyI, fun _ => anyI, fun _ => anyI, fun _ => (0, 7), fun _ => anyI, fun _ => (0, 5), fun j => ([anyI, (0, 900), anyI, anyI, anyI] : List (Int × Int)).getD j anyI, fun _ => anyI, fun _ => anyI, fun _ => anyI, fun j => ([anyI, anyI, anyI, anyI, anyI, anyI, anyI] : List (Int × Int)).getD j anyI, fun _ => (0, 9), fun _ => anyI, fun _ => anyI, fun _ => anyI, fun j => ([(0, 12), (0, 11), anyI] : List (Int × Int)).getD j anyI, sc34, sc34, fun _ => anyI, fun _ => anyI, fun j => ([anyI, anyI, anyI, anyI, anyI, anyI, anyI, anyI, anyI] : List (Int × Int)).getD j anyI, fun _ => anyI, fun _ => (0, 9), fun _ => (0, 9), fun j => ([anyI, anyI, anyI, anyI, anyI, (0, 4), anyI, anyI, anyI, anyI, anyI, anyI, anyI] : List (Int × Int)).getD j anyI, fun _ => anyI, fun _ => anyI, fun _ => anyL, fun _ => anyI, fun _ => anyI, fun _ => anyI, fun _ => anyI, fun j => ([anyI, anyI] : List (Int × Int)).getD j anyI, fun j => ([anyI, anyI, anyI, (0, 10), anyI, anyI, anyI, (0, 8), anyI] : List (Int × Int)).getD j anyI, fun _ => (0, 7), fun _ => (-1, 7), fun _ => anyI, fun _ => anyI, fun j => ([(0, 1), anyI, anyI, anyI] : List (Int × Int)).getD j anyI, fun j => ([anyI, (0, 10), anyI, (0, 8), (0, 6), anyI, anyI, anyI, anyI, anyI, anyI, anyI, anyI, anyI, anyI, anyI, anyI, anyI] : List (Int × Int)).getD j anyI, fun _ => anyI, fun _ => anyI, fun _ => anyI, fun _ => (0, 9), fun _ => anyI, fun _ => anyI, fun _ => anyI, fun _ => anyI, fun _ => (0, 7), fun _ => anyI, fun _ => (0, 5), fun j => ([anyI, (0, 900), anyI, anyI, anyI] : List (Int × Int)).getD j anyI, fun _ => anyI, fun _ => anyI, fun _ => anyI, sc34, fun j => ([(0, 12), (0, 11), anyI] : List (Int × Int)).getD j anyI, sc34, fun j => ([(0, 1), anyI, anyI, anyI] : List (Int × Int)).getD j anyI, fun j => ([anyI, (0, 10), anyI, (0, 8), (0, 6), anyI, anyI, anyI, anyI, anyI, anyI, anyI, anyI, anyI, anyI, anyI, anyI, anyI] : List (Int × Int)).getD j anyI, fun _ => anyI, fun _ => anyI, fun _ => anyI, fun _ => (0, 9), fun _ => anyI, fun _ => anyI, fun _ => anyI, fun _ => anyI, fun _ => (0, 7), fun _ => anyI, fun _ => (0, 5), fun j => ([anyI, (0, 900), anyI, anyI, anyI] : List (Int × Int)).getD j anyI, fun _ => anyI, fun _ => anyI, fun _ => anyI, sc34, fun j => ([(0, 12), (0, 11), anyI] : List (Int × Int)).getD j anyI, sc34, fun j => ([(0, 1), anyI, anyI, anyI] : List (Int × Int)).getD j anyI, fun j => ([anyI, (0, 10), anyI, (0, 8), (0, 6), anyI, anyI, anyI, anyI, anyI, anyI, anyI, anyI, anyI, anyI, anyI, anyI, anyI] : List (Int × Int)).getD j anyI, fun _ => anyI, fun _ => anyI, fun _ => anyI, fun _ => (0, 9), fun _ => anyI, fun _ => anyI, fun _ => anyI, fun _ => anyI, fun _ => (0, 7), fun _ => anyI, fun _ => (0, 5), fun j => ([anyI, (0, 900), anyI, anyI, anyI] : List (Int × Int)).getD j anyI, fun _ => anyI, fun _ => anyI, fun _ => anyI, sc34, fun j => ([(0, 12), (0, 11), anyI] : List (Int × Int)).getD j anyI, sc34, fun j => ([(-1, 30), anyI, anyI] : List (Int × Int)).getD j anyI, fun _ => anyL, fun j => ([(-1, 30), anyI, anyI] : List (Int × Int)).getD j anyI, fun _ => anyL, fun j => ([(-1, 30), anyI, anyI] : List (Int × Int)).getD j anyI, fun _ => anyL, fun j => ([(-1, 30), anyI, anyI] : List (Int × Int)).getD j anyI, fun _ => anyL, fun j => ([anyI, anyI, anyI, anyI, (0, 3), anyI, (0, 900), (0, 900), (0, 900), (0, 900), anyI, (0, 999), (0, 4), (0, 900), (0, 4), (-1, 900), anyI, anyI, anyI, anyI, anyI, anyI, anyI, anyI, anyI, anyI, (0, 1), (0, 50), (0, 9), anyI, anyI, anyI, (0, 1), anyI, anyI, anyI, (0, 1), anyI, anyI, anyI, anyI, anyI, anyI, anyI] : List (Int × Int)).getD j anyI, kn, kn, kn3, fun _ => (0, 1), fun _ => anyI, fun _ => anyI, as18, fun _ => (0, 9), fun _ => (0, 9), fun _ => anyI, fun _ => anyI, fun _ => (0, 7), fun _ => anyI, fun _ => (-1, 7), fun _ => (0, 8), fun _ => (0, 511), fun _ => (-1, 3), fun _ => (0, 30), fun _ => anyL, fun _ => anyL]
def Bd (k j : Nat) : Int × Int := (Bs.getD k (fun _ => anyI)) j
theorem gs_0 : Gs[0]? = some (.inl (11, [some 1, none, some 2, some 18, some 35, some 40, some 42, some 43, some 44, some 45, some 49, some 57, some 58, none])) := rfl
theorem bd_0_0 : Bd 0 0 = (-2147483648, 2147483647) := rfl
theorem bd_0_1 : Bd 0 1 = (0, 900) := rfl
theorem bd_0_2 : Bd 0 2 = (-2147483648, 2147483647) := rfl
theorem bd_0_3 : Bd 0 3 = (-2147483648, 2147483647) := rfl
theorem bd_0_4 : Bd 0 4 = (-2147483648, 2147483647) := rfl
theorem bd_0_5 : Bd 0 5 = (-2147483648, 2147483647) := rfl
theorem bd_0_6 : Bd 0 6 = (-2147483648, 2147483647) := rfl
theorem bd_0_7 : Bd 0 7 = (-2147483648, 2147483647) := rfl
theorem bd_0_8 : Bd 0 8 = (-2147483648, 2147483647) := rfl
theorem bd_0_9 : Bd 0 9 = (-2147483648, 2147483647) := rfl
theorem bd_0_10 : Bd 0 10 = (-2147483648, 2147483647) := rfl
theorem bd_0_11 : Bd 0 11 = (-2147483648, 2147483647) := rfl
theorem bd_0_12 : Bd 0 12 = (-2147483648, 2147483647) := rfl
theorem bd_0_13 : Bd 0 13 = (-2147483648, 2147483647) := rfl
theorem gs_1 : Gs[1]? = some (.inr (.inl (0, 900, false))) := rfl
theorem bd_1 {j : Nat} : Bd 1 j = (-128, 127) := rfl
theorem gs_2 : Gs[2]? = some (.inl (9, [none, none, none, none, none, some 3, some 4, some 5, some 6, some 7, some 8, some 9, none, some 10, some 11, some 12, some 13, some 14])) := rfl
theorem bd_2_0 : Bd 2 0 = (-2147483648, 2147483647) := rfl
theorem bd_2_1 : Bd 2 1 = (0, 10) := rfl
theorem bd_2_2 : Bd 2 2 = (-2147483648, 2147483647) := rfl
theorem bd_2_3 : Bd 2 3 = (0, 8) := rfl
theorem bd_2_4 : Bd 2 4 = (0, 6) := rfl
theorem bd_2_5 : Bd 2 5 = (-2147483648, 2147483647) := rfl
theorem bd_2_6 : Bd 2 6 = (-2147483648, 2147483647) := rfl
theorem bd_2_7 : Bd 2 7 = (-2147483648, 2147483647) := rfl
theorem bd_2_8 : Bd 2 8 = (-2147483648, 2147483647) := rfl
theorem bd_2_9 : Bd 2 9 = (-2147483648, 2147483647) := rfl
theorem bd_2_10 : Bd 2 10 = (-2147483648, 2147483647) := rfl
theorem bd_2_11 : Bd 2 11 = (-2147483648, 2147483647) := rfl
theorem bd_2_12 : Bd 2 12 = (-2147483648, 2147483647) := rfl
theorem bd_2_13 : Bd 2 13 = (-2147483648, 2147483647) := rfl
theorem bd_2_14 : Bd 2 14 = (-2147483648, 2147483647) := rfl
theorem bd_2_15 : Bd 2 15 = (-2147483648, 2147483647) := rfl
theorem bd_2_16 : Bd 2 16 = (-2147483648, 2147483647) := rfl
theorem bd_2_17 : Bd 2 17 = (-2147483648, 2147483647) := rfl
theorem gs_3 : Gs[3]? = some (.inr (.inl (1, 10, false))) := rfl
theorem bd_3 {j : Nat} : Bd 3 j = (-2147483648, 2147483647) := rfl
theorem gs_4 : Gs[4]? = some (.inr (.inl (1, 10, false))) := rfl
theorem bd_4 {j : Nat} : Bd 4 j = (-2147483648, 2147483647) := rfl
theorem gs_5 : Gs[5]? = some (.inr (.inl (1, 100, false))) := rfl
theorem bd_5 {j : Nat} : Bd 5 j = (-2147483648, 2147483647) := rfl
theorem gs_6 : Gs[6]? = some (.inr (.inl (1, 8, false))) := rfl
theorem bd_6 {j : Nat} : Bd 6 j = (0, 9) := rfl
theorem gs_7 : Gs[7]? = some (.inr (.inl (1, 8, false))) := rfl
theorem bd_7 {j : Nat} : Bd 7 j = (-2147483648, 2147483647) := rfl
theorem gs_8 : Gs[8]? = some (.inr (.inl (1, 8, false))) := rfl
theorem bd_8 {j : Nat} : Bd 8 j = (-2147483648, 2147483647) := rfl
theorem gs_9 : Gs[9]? = some (.inr (.inl (1, 8, false))) := rfl
theorem bd_9 {j : Nat} : Bd 9 j = (-2147483648, 2147483647) := rfl
theorem gs_10 : Gs[10]? = some (.inr (.inl (1, 6, false))) := rfl
theorem bd_10 {j : Nat} : Bd 10 j = (-2147483648, 2147483647) := rfl
theorem gs_11 : Gs[11]? = some (.inr (.inl (1, 6, false))) := rfl
theorem bd_11 {j : Nat} : Bd 11 j = (0, 7) := rfl
theorem gs_12 : Gs[12]? = some (.inr (.inl (1, 6, false))) := rfl
theorem bd_12 {j : Nat} : Bd 12 j = (-2147483648, 2147483647) := rfl
theorem gs_13 : Gs[13]? = some (.inr (.inl (1, 6, false))) := rfl
theorem bd_13 {j : Nat} : Bd 13 j = (0, 5) := rfl
theorem gs_14 : Gs[14]? = some (.inl (2, [some 15, none, none, some 16, some 17])) := rfl
theorem bd_14_0 : Bd 14 0 = (-2147483648, 2147483647) := rfl
theorem bd_14_1 : Bd 14 1 = (0, 900) := rfl
theorem bd_14_2 : Bd 14 2 = (-2147483648, 2147483647) := rfl
theorem bd_14_3 : Bd 14 3 = (-2147483648, 2147483647) := rfl
theorem bd_14_4 : Bd 14 4 = (-2147483648, 2147483647) := rfl
theorem gs_15 : Gs[15]? = some (.inr (.inl (1, 900, false))) := rfl
theorem bd_15 {j : Nat} : Bd 15 j = (-2147483648, 2147483647) := rfl
theorem gs_16 : Gs[16]? = some (.inr (.inl (1, 64, false))) := rfl
theorem bd_16 {j : Nat} : Bd 16 j = (-2147483648, 2147483647) := rfl
theorem gs_17 : Gs[17]? = some (.inr (.inl (1, 8, false))) := rfl
theorem bd_17 {j : Nat} : Bd 17 j = (-2147483648, 2147483647) := rfl
theorem gs_18 : Gs[18]? = some (.inl (6, [some 19, none, none, some 1, none, none, none, none, none])) := rfl
theorem bd_18_0 : Bd 18 0 = (-2147483648, 2147483647) := rfl
theorem bd_18_1 : Bd 18 1 = (-2147483648, 2147483647) := rfl
theorem bd_18_2 : Bd 18 2 = (-2147483648, 2147483647) := rfl
theorem bd_18_3 : Bd 18 3 = (-2147483648, 2147483647) := rfl
theorem bd_18_4 : Bd 18 4 = (0, 900) := rfl
theorem bd_18_5 : Bd 18 5 = (0, 900) := rfl
theorem bd_18_6 : Bd 18 6 = (0, 900) := rfl
theorem bd_18_7 : Bd 18 7 = (0, 4) := rfl
theorem bd_18_8 : Bd 18 8 = (-2147483648, 2147483647) := rfl
theorem gs_19 : Gs[19]? = some (.inl (9, [none, none, none, none, none, some 20, some 21, some 22, some 23, some 24, some 25, some 26, none, some 27, some 28, some 29, some 30, some 31])) := rfl
theorem bd_19_0 : Bd 19 0 = (-2147483648, 2147483647) := rfl
theorem bd_19_1 : Bd 19 1 = (0, 10) := rfl
theorem bd_19_2 : Bd 19 2 = (-2147483648, 2147483647) := rfl
theorem bd_19_3 : Bd 19 3 = (0, 8) := rfl
theorem bd_19_4 : Bd 19 4 = (0, 6) := rfl
theorem bd_19_5 : Bd 19 5 = (-2147483648, 2147483647) := rfl
theorem bd_19_6 : Bd 19 6 = (-2147483648, 2147483647) := rfl
theorem bd_19_7 : Bd 19 7 = (-2147483648, 2147483647) := rfl
theorem bd_19_8 : Bd 19 8 = (-2147483648, 2147483647) := rfl
theorem bd_19_9 : Bd 19 9 = (-2147483648, 2147483647) := rfl
theorem bd_19_10 : Bd 19 10 = (-2147483648, 2147483647) := rfl
theorem bd_19_11 : Bd 19 11 = (-2147483648, 2147483647) := rfl
theorem bd_19_12 : Bd 19 12 = (-2147483648, 2147483647) := rfl
theorem bd_19_13 : Bd 19 13 = (-2147483648, 2147483647) := rfl
theorem bd_19_14 : Bd 19 14 = (-2147483648, 2147483647) := rfl
theorem bd_19_15 : Bd 19 15 = (-2147483648, 2147483647) := rfl
theorem bd_19_16 : Bd 19 16 = (-2147483648, 2147483647) := rfl
theorem bd_19_17 : Bd 19 17 = (-2147483648, 2147483647) := rfl
theorem gs_20 : Gs[20]? = some (.inr (.inl (1, 10, false))) := rfl
theorem bd_20 {j : Nat} : Bd 20 j = (-2147483648, 2147483647) := rfl
theorem gs_21 : Gs[21]? = some (.inr (.inl (1, 10, false))) := rfl
theorem bd_21 {j : Nat} : Bd 21 j = (-2147483648, 2147483647) := rfl
theorem gs_22 : Gs[22]? = some (.inr (.inl (1, 100, false))) := rfl
theorem bd_22 {j : Nat} : Bd 22 j = (-2147483648, 2147483647) := rfl
theorem gs_23 : Gs[23]? = some (.inr (.inl (1, 8, false))) := rfl
theorem bd_23 {j : Nat} : Bd 23 j = (0, 9) := rfl
theorem gs_24 : Gs[24]? = some (.inr (.inl (1, 8, false))) := rfl
theorem bd_24 {j : Nat} : Bd 24 j = (-2147483648, 2147483647) := rfl
theorem gs_25 : Gs[25]? = some (.inr (.inl (1, 8, false))) := rfl
theorem bd_25 {j : Nat} : Bd 25 j = (-2147483648, 2147483647) := rfl
theorem gs_26 : Gs[26]? = some (.inr (.inl (1, 8, false))) := rfl
theorem bd_26 {j : Nat} : Bd 26 j = (-2147483648, 2147483647) := rfl
theorem gs_27 : Gs[27]? = some (.inr (.inl (1, 6, false))) := rfl
theorem bd_27 {j : Nat} : Bd 27 j = (-2147483648, 2147483647) := rfl
theorem gs_28 : Gs[28]? = some (.inr (.inl (1, 6, false))) := rfl
theorem bd_28 {j : Nat} : Bd 28 j = (0, 7) := rfl
theorem gs_29 : Gs[29]? = some (.inr (.inl (1, 6, false))) := rfl
theorem bd_29 {j : Nat} : Bd 29 j = (-2147483648, 2147483647) := rfl
theorem gs_30 : Gs[30]? = some (.inr (.inl (1, 6, false))) := rfl
theorem bd_30 {j : Nat} : Bd 30 j = (0, 5) := rfl
theorem gs_31 : Gs[31]? = some (.inl (2, [some 32, none, none, some 33, some 34])) := rfl
theorem bd_31_0 : Bd 31 0 = (-2147483648, 2147483647) := rfl
theorem bd_31_1 : Bd 31 1 = (0, 900) := rfl
theorem bd_31_2 : Bd 31 2 = (-2147483648, 2147483647) := rfl
theorem bd_31_3 : Bd 31 3 = (-2147483648, 2147483647) := rfl
theorem bd_31_4 : Bd 31 4 = (-2147483648, 2147483647) := rfl
theorem gs_32 : Gs[32]? = some (.inr (.inl (1, 900, false))) := rfl
theorem bd_32 {j : Nat} : Bd 32 j = (-2147483648, 2147483647) := rfl
theorem gs_33 : Gs[33]? = some (.inr (.inl (1, 64, false))) := rfl
theorem bd_33 {j : Nat} : Bd 33 j = (-2147483648, 2147483647) := rfl
theorem gs_34 : Gs[34]? = some (.inr (.inl (1, 8, false))) := rfl
theorem bd_34 {j : Nat} : Bd 34 j = (-2147483648, 2147483647) := rfl
theorem gs_35 : Gs[35]? = some (.inl (7, [some 2, some 36, some 37, some 38, some 39, none, none])) := rfl
theorem bd_35_0 : Bd 35 0 = (-2147483648, 2147483647) := rfl
theorem bd_35_1 : Bd 35 1 = (-2147483648, 2147483647) := rfl
theorem bd_35_2 : Bd 35 2 = (-2147483648, 2147483647) := rfl
theorem bd_35_3 : Bd 35 3 = (-2147483648, 2147483647) := rfl
theorem bd_35_4 : Bd 35 4 = (-2147483648, 2147483647) := rfl
theorem bd_35_5 : Bd 35 5 = (-2147483648, 2147483647) := rfl
theorem bd_35_6 : Bd 35 6 = (-2147483648, 2147483647) := rfl
theorem gs_36 : Gs[36]? = some (.inr (.inl (1, 8, false))) := rfl
theorem bd_36 {j : Nat} : Bd 36 j = (0, 9) := rfl
theorem gs_37 : Gs[37]? = some (.inr (.inl (1, 8, false))) := rfl
theorem bd_37 {j : Nat} : Bd 37 j = (-2147483648, 2147483647) := rfl
theorem gs_38 : Gs[38]? = some (.inr (.inl (1, 8, false))) := rfl
theorem bd_38 {j : Nat} : Bd 38 j = (-2147483648, 2147483647) := rfl
theorem gs_39 : Gs[39]? = some (.inr (.inl (1, 8, false))) := rfl
theorem bd_39 {j : Nat} : Bd 39 j = (-2147483648, 2147483647) := rfl
theorem gs_40 : Gs[40]? = some (.inl (4, [none, none, some 41])) := rfl
theorem bd_40_0 : Bd 40 0 = (0, 12) := rfl
theorem bd_40_1 : Bd 40 1 = (0, 11) := rfl
theorem bd_40_2 : Bd 40 2 = (-2147483648, 2147483647) := rfl
theorem gs_41 : Gs[41]? = some (.inr (.inl (1, 408, false))) := rfl
theorem bd_41 {j : Nat} : Bd 41 j = sc34 j := rfl
theorem gs_42 : Gs[42]? = some (.inr (.inl (1, 34, false))) := rfl
theorem bd_42 {j : Nat} : Bd 42 j = sc34 j := rfl
theorem gs_43 : Gs[43]? = some (.inr (.inr (4, [63, 83, 103]))) := rfl
theorem bd_43 {j : Nat} : Bd 43 j = (-2147483648, 2147483647) := rfl
theorem gs_44 : Gs[44]? = some (.inr (.inr (5, [123, 125, 127, 129]))) := rfl
theorem bd_44 {j : Nat} : Bd 44 j = (-2147483648, 2147483647) := rfl
theorem gs_45 : Gs[45]? = some (.inl (5, [some 2, some 35, some 46, none, none, some 47, some 48, none, none])) := rfl
theorem bd_45_0 : Bd 45 0 = (-2147483648, 2147483647) := rfl
theorem bd_45_1 : Bd 45 1 = (-2147483648, 2147483647) := rfl
theorem bd_45_2 : Bd 45 2 = (-2147483648, 2147483647) := rfl
theorem bd_45_3 : Bd 45 3 = (-2147483648, 2147483647) := rfl
theorem bd_45_4 : Bd 45 4 = (-2147483648, 2147483647) := rfl
theorem bd_45_5 : Bd 45 5 = (-2147483648, 2147483647) := rfl
theorem bd_45_6 : Bd 45 6 = (-2147483648, 2147483647) := rfl
theorem bd_45_7 : Bd 45 7 = (-2147483648, 2147483647) := rfl
theorem bd_45_8 : Bd 45 8 = (-2147483648, 2147483647) := rfl
theorem gs_46 : Gs[46]? = some (.inr (.inl (1, 72, false))) := rfl
theorem bd_46 {j : Nat} : Bd 46 j = (-2147483648, 2147483647) := rfl
theorem gs_47 : Gs[47]? = some (.inr (.inl (1, 8, false))) := rfl
theorem bd_47 {j : Nat} : Bd 47 j = (0, 9) := rfl
theorem gs_48 : Gs[48]? = some (.inr (.inl (1, 8, false))) := rfl
theorem bd_48 {j : Nat} : Bd 48 j = (0, 9) := rfl
theorem gs_49 : Gs[49]? = some (.inl (0, [some 2, some 35, some 50, some 51, some 52, none, some 53, none, none, some 54, some 55, some 56, none])) := rfl
theorem bd_49_0 : Bd 49 0 = (-2147483648, 2147483647) := rfl
theorem bd_49_1 : Bd 49 1 = (-2147483648, 2147483647) := rfl
theorem bd_49_2 : Bd 49 2 = (-2147483648, 2147483647) := rfl
theorem bd_49_3 : Bd 49 3 = (-2147483648, 2147483647) := rfl
theorem bd_49_4 : Bd 49 4 = (-2147483648, 2147483647) := rfl
theorem bd_49_5 : Bd 49 5 = (0, 4) := rfl
theorem bd_49_6 : Bd 49 6 = (-2147483648, 2147483647) := rfl
theorem bd_49_7 : Bd 49 7 = (-2147483648, 2147483647) := rfl
theorem bd_49_8 : Bd 49 8 = (-2147483648, 2147483647) := rfl
theorem bd_49_9 : Bd 49 9 = (-2147483648, 2147483647) := rfl
theorem bd_49_10 : Bd 49 10 = (-2147483648, 2147483647) := rfl
theorem bd_49_11 : Bd 49 11 = (-2147483648, 2147483647) := rfl
theorem bd_49_12 : Bd 49 12 = (-2147483648, 2147483647) := rfl
theorem gs_50 : Gs[50]? = some (.inr (.inl (1, 64, false))) := rfl
theorem bd_50 {j : Nat} : Bd 50 j = (-2147483648, 2147483647) := rfl
theorem gs_51 : Gs[51]? = some (.inr (.inl (1, 8, false))) := rfl
theorem bd_51 {j : Nat} : Bd 51 j = (-2147483648, 2147483647) := rfl
theorem gs_52 : Gs[52]? = some (.inr (.inl (2, 4, true))) := rfl
theorem bd_52 {j : Nat} : Bd 52 j = (-9223372036854775808, 9223372036854775807) := rfl
theorem gs_53 : Gs[53]? = some (.inr (.inl (1, 4, false))) := rfl
theorem bd_53 {j : Nat} : Bd 53 j = (-2147483648, 2147483647) := rfl
theorem gs_54 : Gs[54]? = some (.inr (.inl (1, 8, false))) := rfl
theorem bd_54 {j : Nat} : Bd 54 j = (-2147483648, 2147483647) := rfl
theorem gs_55 : Gs[55]? = some (.inr (.inl (1, 6, false))) := rfl
theorem bd_55 {j : Nat} : Bd 55 j = (-2147483648, 2147483647) := rfl
theorem gs_56 : Gs[56]? = some (.inr (.inl (1, 6, false))) := rfl
theorem bd_56 {j : Nat} : Bd 56 j = (-2147483648, 2147483647) := rfl
theorem gs_57 : Gs[57]? = some (.inl (3, [some 2, some 35])) := rfl
theorem bd_57_0 : Bd 57 0 = (-2147483648, 2147483647) := rfl
theorem bd_57_1 : Bd 57 1 = (-2147483648, 2147483647) := rfl
theorem gs_58 : Gs[58]? = some (.inl (8, [some 2, some 35, some 59, none, some 60, some 61, some 62, none, none])) := rfl
theorem bd_58_0 : Bd 58 0 = (-2147483648, 2147483647) := rfl
theorem bd_58_1 : Bd 58 1 = (-2147483648, 2147483647) := rfl
theorem bd_58_2 : Bd 58 2 = (-2147483648, 2147483647) := rfl
theorem bd_58_3 : Bd 58 3 = (0, 10) := rfl
theorem bd_58_4 : Bd 58 4 = (-2147483648, 2147483647) := rfl
theorem bd_58_5 : Bd 58 5 = (-2147483648, 2147483647) := rfl
theorem bd_58_6 : Bd 58 6 = (-2147483648, 2147483647) := rfl
theorem bd_58_7 : Bd 58 7 = (0, 8) := rfl
theorem bd_58_8 : Bd 58 8 = (-2147483648, 2147483647) := rfl
theorem gs_59 : Gs[59]? = some (.inr (.inl (1, 10, false))) := rfl
theorem bd_59 {j : Nat} : Bd 59 j = (0, 7) := rfl
theorem gs_60 : Gs[60]? = some (.inr (.inl (1, 10, false))) := rfl
theorem bd_60 {j : Nat} : Bd 60 j = (-1, 7) := rfl
theorem gs_61 : Gs[61]? = some (.inr (.inl (1, 2048, false))) := rfl
theorem bd_61 {j : Nat} : Bd 61 j = (-2147483648, 2147483647) := rfl
theorem gs_62 : Gs[62]? = some (.inr (.inl (1, 8, false))) := rfl
theorem bd_62 {j : Nat} : Bd 62 j = (-2147483648, 2147483647) := rfl
theorem gs_63 : Gs[63]? = some (.inl (1, [none, some 64, some 80, some 81])) := rfl
theorem bd_63_0 : Bd 63 0 = (0, 1) := rfl
theorem bd_63_1 : Bd 63 1 = (-2147483648, 2147483647) := rfl
theorem bd_63_2 : Bd 63 2 = (-2147483648, 2147483647) := rfl
theorem bd_63_3 : Bd 63 3 = (-2147483648, 2147483647) := rfl
theorem gs_64 : Gs[64]? = some (.inl (9, [none, none, none, none, none, some 65, some 66, some 67, some 68, some 69, some 70, some 71, none, some 72, some 73, some 74, some 75, some 76])) := rfl
theorem bd_64_0 : Bd 64 0 = (-2147483648, 2147483647) := rfl
theorem bd_64_1 : Bd 64 1 = (0, 10) := rfl
theorem bd_64_2 : Bd 64 2 = (-2147483648, 2147483647) := rfl
theorem bd_64_3 : Bd 64 3 = (0, 8) := rfl
theorem bd_64_4 : Bd 64 4 = (0, 6) := rfl
theorem bd_64_5 : Bd 64 5 = (-2147483648, 2147483647) := rfl
theorem bd_64_6 : Bd 64 6 = (-2147483648, 2147483647) := rfl
theorem bd_64_7 : Bd 64 7 = (-2147483648, 2147483647) := rfl
theorem bd_64_8 : Bd 64 8 = (-2147483648, 2147483647) := rfl
theorem bd_64_9 : Bd 64 9 = (-2147483648, 2147483647) := rfl
theorem bd_64_10 : Bd 64 10 = (-2147483648, 2147483647) := rfl
theorem bd_64_11 : Bd 64 11 = (-2147483648, 2147483647) := rfl
theorem bd_64_12 : Bd 64 12 = (-2147483648, 2147483647) := rfl
theorem bd_64_13 : Bd 64 13 = (-2147483648, 2147483647) := rfl
theorem bd_64_14 : Bd 64 14 = (-2147483648, 2147483647) := rfl
theorem bd_64_15 : Bd 64 15 = (-2147483648, 2147483647) := rfl
theorem bd_64_16 : Bd 64 16 = (-2147483648, 2147483647) := rfl
theorem bd_64_17 : Bd 64 17 = (-2147483648, 2147483647) := rfl
theorem gs_65 : Gs[65]? = some (.inr (.inl (1, 10, false))) := rfl
theorem bd_65 {j : Nat} : Bd 65 j = (-2147483648, 2147483647) := rfl
theorem gs_66 : Gs[66]? = some (.inr (.inl (1, 10, false))) := rfl
theorem bd_66 {j : Nat} : Bd 66 j = (-2147483648, 2147483647) := rfl
theorem gs_67 : Gs[67]? = some (.inr (.inl (1, 100, false))) := rfl
theorem bd_67 {j : Nat} : Bd 67 j = (-2147483648, 2147483647) := rfl
theorem gs_68 : Gs[68]? = some (.inr (.inl (1, 8, false))) := rfl
theorem bd_68 {j : Nat} : Bd 68 j = (0, 9) := rfl
theorem gs_69 : Gs[69]? = some (.inr (.inl (1, 8, false))) := rfl
theorem bd_69 {j : Nat} : Bd 69 j = (-2147483648, 2147483647) := rfl
theorem gs_70 : Gs[70]? = some (.inr (.inl (1, 8, false))) := rfl
theorem bd_70 {j : Nat} : Bd 70 j = (-2147483648, 2147483647) := rfl
theorem gs_71 : Gs[71]? = some (.inr (.inl (1, 8, false))) := rfl
theorem bd_71 {j : Nat} : Bd 71 j = (-2147483648, 2147483647) := rfl
theorem gs_72 : Gs[72]? = some (.inr (.inl (1, 6, false))) := rfl
theorem bd_72 {j : Nat} : Bd 72 j = (-2147483648, 2147483647) := rfl
theorem gs_73 : Gs[73]? = some (.inr (.inl (1, 6, false))) := rfl
theorem bd_73 {j : Nat} : Bd 73 j = (0, 7) := rfl
theorem gs_74 : Gs[74]? = some (.inr (.inl (1, 6, false))) := rfl
theorem bd_74 {j : Nat} : Bd 74 j = (-2147483648, 2147483647) := rfl
theorem gs_75 : Gs[75]? = some (.inr (.inl (1, 6, false))) := rfl
theorem bd_75 {j : Nat} : Bd 75 j = (0, 5) := rfl
theorem gs_76 : Gs[76]? = some (.inl (2, [some 77, none, none, some 78, some 79])) := rfl
theorem bd_76_0 : Bd 76 0 = (-2147483648, 2147483647) := rfl
theorem bd_76_1 : Bd 76 1 = (0, 900) := rfl
theorem bd_76_2 : Bd 76 2 = (-2147483648, 2147483647) := rfl
theorem bd_76_3 : Bd 76 3 = (-2147483648, 2147483647) := rfl
theorem bd_76_4 : Bd 76 4 = (-2147483648, 2147483647) := rfl
theorem gs_77 : Gs[77]? = some (.inr (.inl (1, 900, false))) := rfl
theorem bd_77 {j : Nat} : Bd 77 j = (-2147483648, 2147483647) := rfl
theorem gs_78 : Gs[78]? = some (.inr (.inl (1, 64, false))) := rfl
theorem bd_78 {j : Nat} : Bd 78 j = (-2147483648, 2147483647) := rfl
theorem gs_79 : Gs[79]? = some (.inr (.inl (1, 8, false))) := rfl
theorem bd_79 {j : Nat} : Bd 79 j = (-2147483648, 2147483647) := rfl
theorem gs_80 : Gs[80]? = some (.inr (.inl (1, 34, false))) := rfl
theorem bd_80 {j : Nat} : Bd 80 j = sc34 j := rfl
theorem gs_81 : Gs[81]? = some (.inl (4, [none, none, some 82])) := rfl
theorem bd_81_0 : Bd 81 0 = (0, 12) := rfl
theorem bd_81_1 : Bd 81 1 = (0, 11) := rfl
theorem bd_81_2 : Bd 81 2 = (-2147483648, 2147483647) := rfl
theorem gs_82 : Gs[82]? = some (.inr (.inl (1, 408, false))) := rfl
theorem bd_82 {j : Nat} : Bd 82 j = sc34 j := rfl
theorem gs_83 : Gs[83]? = some (.inl (1, [none, some 84, some 100, some 101])) := rfl
theorem bd_83_0 : Bd 83 0 = (0, 1) := rfl
theorem bd_83_1 : Bd 83 1 = (-2147483648, 2147483647) := rfl
theorem bd_83_2 : Bd 83 2 = (-2147483648, 2147483647) := rfl
theorem bd_83_3 : Bd 83 3 = (-2147483648, 2147483647) := rfl
theorem gs_84 : Gs[84]? = some (.inl (9, [none, none, none, none, none, some 85, some 86, some 87, some 88, some 89, some 90, some 91, none, some 92, some 93, some 94, some 95, some 96])) := rfl
theorem bd_84_0 : Bd 84 0 = (-2147483648, 2147483647) := rfl
theorem bd_84_1 : Bd 84 1 = (0, 10) := rfl
theorem bd_84_2 : Bd 84 2 = (-2147483648, 2147483647) := rfl
theorem bd_84_3 : Bd 84 3 = (0, 8) := rfl
theorem bd_84_4 : Bd 84 4 = (0, 6) := rfl
theorem bd_84_5 : Bd 84 5 = (-2147483648, 2147483647) := rfl
theorem bd_84_6 : Bd 84 6 = (-2147483648, 2147483647) := rfl
theorem bd_84_7 : Bd 84 7 = (-2147483648, 2147483647) := rfl
theorem bd_84_8 : Bd 84 8 = (-2147483648, 2147483647) := rfl
theorem bd_84_9 : Bd 84 9 = (-2147483648, 2147483647) := rfl
theorem bd_84_10 : Bd 84 10 = (-2147483648, 2147483647) := rfl
theorem bd_84_11 : Bd 84 11 = (-2147483648, 2147483647) := rfl
theorem bd_84_12 : Bd 84 12 = (-2147483648, 2147483647) := rfl
theorem bd_84_13 : Bd 84 13 = (-2147483648, 2147483647) := rfl
theorem bd_84_14 : Bd 84 14 = (-2147483648, 2147483647) := rfl
theorem bd_84_15 : Bd 84 15 = (-2147483648, 2147483647) := rfl
theorem bd_84_16 : Bd 84 16 = (-2147483648, 2147483647) := rfl
theorem bd_84_17 : Bd 84 17 = (-2147483648, 2147483647) := rfl
theorem gs_85 : Gs[85]? = some (.inr (.inl (1, 10, false))) := rfl
theorem bd_85 {j : Nat} : Bd 85 j = (-2147483648, 2147483647) := rfl
theorem gs_86 : Gs[86]? = some (.inr (.inl (1, 10, false))) := rfl
theorem bd_86 {j : Nat} : Bd 86 j = (-2147483648, 2147483647) := rfl
theorem gs_87 : Gs[87]? = some (.inr (.inl (1, 100, false))) := rfl
theorem bd_87 {j : Nat} : Bd 87 j = (-2147483648, 2147483647) := rfl
theorem gs_88 : Gs[88]? = some (.inr (.inl (1, 8, false))) := rfl
theorem bd_88 {j : Nat} : Bd 88 j = (0, 9) := rfl
theorem gs_89 : Gs[89]? = some (.inr (.inl (1, 8, false))) := rfl
theorem bd_89 {j : Nat} : Bd 89 j = (-2147483648, 2147483647) := rfl
theorem gs_90 : Gs[90]? = some (.inr (.inl (1, 8, false))) := rfl
theorem bd_90 {j : Nat} : Bd 90 j = (-2147483648, 2147483647) := rfl
theorem gs_91 : Gs[91]? = some (.inr (.inl (1, 8, false))) := rfl
theorem bd_91 {j : Nat} : Bd 91 j = (-2147483648, 2147483647) := rfl
theorem gs_92 : Gs[92]? = some (.inr (.inl (1, 6, false))) := rfl
theorem bd_92 {j : Nat} : Bd 92 j = (-2147483648, 2147483647) := rfl
theorem gs_93 : Gs[93]? = some (.inr (.inl (1, 6, false))) := rfl
theorem bd_93 {j : Nat} : Bd 93 j = (0, 7) := rfl
theorem gs_94 : Gs[94]? = some (.inr (.inl (1, 6, false))) := rfl
theorem bd_94 {j : Nat} : Bd 94 j = (-2147483648, 2147483647) := rfl
theorem gs_95 : Gs[95]? = some (.inr (.inl (1, 6, false))) := rfl
theorem bd_95 {j : Nat} : Bd 95 j = (0, 5) := rfl
theorem gs_96 : Gs[96]? = some (.inl (2, [some 97, none, none, some 98, some 99])) := rfl
theorem bd_96_0 : Bd 96 0 = (-2147483648, 2147483647) := rfl
theorem bd_96_1 : Bd 96 1 = (0, 900) := rfl
theorem bd_96_2 : Bd 96 2 = (-2147483648, 2147483647) := rfl
theorem bd_96_3 : Bd 96 3 = (-2147483648, 2147483647) := rfl
theorem bd_96_4 : Bd 96 4 = (-2147483648, 2147483647) := rfl
theorem gs_97 : Gs[97]? = some (.inr (.inl (1, 900, false))) := rfl
theorem bd_97 {j : Nat} : Bd 97 j = (-2147483648, 2147483647) := rfl
theorem gs_98 : Gs[98]? = some (.inr (.inl (1, 64, false))) := rfl
theorem bd_98 {j : Nat} : Bd 98 j = (-2147483648, 2147483647) := rfl
theorem gs_99 : Gs[99]? = some (.inr (.inl (1, 8, false))) := rfl
theorem bd_99 {j : Nat} : Bd 99 j = (-2147483648, 2147483647) := rfl
theorem gs_100 : Gs[100]? = some (.inr (.inl (1, 34, false))) := rfl
theorem bd_100 {j : Nat} : Bd 100 j = sc34 j := rfl
theorem gs_101 : Gs[101]? = some (.inl (4, [none, none, some 102])) := rfl
theorem bd_101_0 : Bd 101 0 = (0, 12) := rfl
theorem bd_101_1 : Bd 101 1 = (0, 11) := rfl
theorem bd_101_2 : Bd 101 2 = (-2147483648, 2147483647) := rfl
theorem gs_102 : Gs[102]? = some (.inr (.inl (1, 408, false))) := rfl
theorem bd_102 {j : Nat} : Bd 102 j = sc34 j := rfl
theorem gs_103 : Gs[103]? = some (.inl (1, [none, some 104, some 120, some 121])) := rfl
theorem bd_103_0 : Bd 103 0 = (0, 1) := rfl
theorem bd_103_1 : Bd 103 1 = (-2147483648, 2147483647) := rfl
theorem bd_103_2 : Bd 103 2 = (-2147483648, 2147483647) := rfl
theorem bd_103_3 : Bd 103 3 = (-2147483648, 2147483647) := rfl
theorem gs_104 : Gs[104]? = some (.inl (9, [none, none, none, none, none, some 105, some 106, some 107, some 108, some 109, some 110, some 111, none, some 112, some 113, some 114, some 115, some 116])) := rfl
theorem bd_104_0 : Bd 104 0 = (-2147483648, 2147483647) := rfl
theorem bd_104_1 : Bd 104 1 = (0, 10) := rfl
theorem bd_104_2 : Bd 104 2 = (-2147483648, 2147483647) := rfl
theorem bd_104_3 : Bd 104 3 = (0, 8) := rfl
theorem bd_104_4 : Bd 104 4 = (0, 6) := rfl
theorem bd_104_5 : Bd 104 5 = (-2147483648, 2147483647) := rfl
theorem bd_104_6 : Bd 104 6 = (-2147483648, 2147483647) := rfl
theorem bd_104_7 : Bd 104 7 = (-2147483648, 2147483647) := rfl
theorem bd_104_8 : Bd 104 8 = (-2147483648, 2147483647) := rfl
theorem bd_104_9 : Bd 104 9 = (-2147483648, 2147483647) := rfl
theorem bd_104_10 : Bd 104 10 = (-2147483648, 2147483647) := rfl
theorem bd_104_11 : Bd 104 11 = (-2147483648, 2147483647) := rfl
theorem bd_104_12 : Bd 104 12 = (-2147483648, 2147483647) := rfl
theorem bd_104_13 : Bd 104 13 = (-2147483648, 2147483647) := rfl
theorem bd_104_14 : Bd 104 14 = (-2147483648, 2147483647) := rfl
theorem bd_104_15 : Bd 104 15 = (-2147483648, 2147483647) := rfl
theorem bd_104_16 : Bd 104 16 = (-2147483648, 2147483647) := rfl
theorem bd_104_17 : Bd 104 17 = (-2147483648, 2147483647) := rfl
theorem gs_105 : Gs[105]? = some (.inr (.inl (1, 10, false))) := rfl
theorem bd_105 {j : Nat} : Bd 105 j = (-2147483648, 2147483647) := rfl
theorem gs_106 : Gs[106]? = some (.inr (.inl (1, 10, false))) := rfl
theorem bd_106 {j : Nat} : Bd 106 j = (-2147483648, 2147483647) := rfl
theorem gs_107 : Gs[107]? = some (.inr (.inl (1, 100, false))) := rfl
theorem bd_107 {j : Nat} : Bd 107 j = (-2147483648, 2147483647) := rfl
theorem gs_108 : Gs[108]? = some (.inr (.inl (1, 8, false))) := rfl
theorem bd_108 {j : Nat} : Bd 108 j = (0, 9) := rfl
theorem gs_109 : Gs[109]? = some (.inr (.inl (1, 8, false))) := rfl
theorem bd_109 {j : Nat} : Bd 109 j = (-2147483648, 2147483647) := rfl
theorem gs_110 : Gs[110]? = some (.inr (.inl (1, 8, false))) := rfl
theorem bd_110 {j : Nat} : Bd 110 j = (-2147483648, 2147483647) := rfl
theorem gs_111 : Gs[111]? = some (.inr (.inl (1, 8, false))) := rfl
theorem bd_111 {j : Nat} : Bd 111 j = (-2147483648, 2147483647) := rfl
theorem gs_112 : Gs[112]? = some (.inr (.inl (1, 6, false))) := rfl
theorem bd_112 {j : Nat} : Bd 112 j = (-2147483648, 2147483647) := rfl
theorem gs_113 : Gs[113]? = some (.inr (.inl (1, 6, false))) := rfl
theorem bd_113 {j : Nat} : Bd 113 j = (0, 7) := rfl
theorem gs_114 : Gs[114]? = some (.inr (.inl (1, 6, false))) := rfl
theorem bd_114 {j : Nat} : Bd 114 j = (-2147483648, 2147483647) := rfl
theorem gs_115 : Gs[115]? = some (.inr (.inl (1, 6, false))) := rfl
theorem bd_115 {j : Nat} : Bd 115 j = (0, 5) := rfl
theorem gs_116 : Gs[116]? = some (.inl (2, [some 117, none, none, some 118, some 119])) := rfl
theorem bd_116_0 : Bd 116 0 = (-2147483648, 2147483647) := rfl
theorem bd_116_1 : Bd 116 1 = (0, 900) := rfl
theorem bd_116_2 : Bd 116 2 = (-2147483648, 2147483647) := rfl
theorem bd_116_3 : Bd 116 3 = (-2147483648, 2147483647) := rfl
theorem bd_116_4 : Bd 116 4 = (-2147483648, 2147483647) := rfl
theorem gs_117 : Gs[117]? = some (.inr (.inl (1, 900, false))) := rfl
theorem bd_117 {j : Nat} : Bd 117 j = (-2147483648, 2147483647) := rfl
theorem gs_118 : Gs[118]? = some (.inr (.inl (1, 64, false))) := rfl
theorem bd_118 {j : Nat} : Bd 118 j = (-2147483648, 2147483647) := rfl
theorem gs_119 : Gs[119]? = some (.inr (.inl (1, 8, false))) := rfl
theorem bd_119 {j : Nat} : Bd 119 j = (-2147483648, 2147483647) := rfl
theorem gs_120 : Gs[120]? = some (.inr (.inl (1, 34, false))) := rfl
theorem bd_120 {j : Nat} : Bd 120 j = sc34 j := rfl
theorem gs_121 : Gs[121]? = some (.inl (4, [none, none, some 122])) := rfl
theorem bd_121_0 : Bd 121 0 = (0, 12) := rfl
theorem bd_121_1 : Bd 121 1 = (0, 11) := rfl
theorem bd_121_2 : Bd 121 2 = (-2147483648, 2147483647) := rfl
theorem gs_122 : Gs[122]? = some (.inr (.inl (1, 408, false))) := rfl
theorem bd_122 {j : Nat} : Bd 122 j = sc34 j := rfl
theorem gs_123 : Gs[123]? = some (.inl (10, [none, none, some 124])) := rfl
theorem bd_123_0 : Bd 123 0 = (-1, 30) := rfl
theorem bd_123_1 : Bd 123 1 = (-2147483648, 2147483647) := rfl
theorem bd_123_2 : Bd 123 2 = (-2147483648, 2147483647) := rfl
theorem gs_124 : Gs[124]? = some (.inr (.inl (2, 30, true))) := rfl
theorem bd_124 {j : Nat} : Bd 124 j = (-9223372036854775808, 9223372036854775807) := rfl
theorem gs_125 : Gs[125]? = some (.inl (10, [none, none, some 126])) := rfl
theorem bd_125_0 : Bd 125 0 = (-1, 30) := rfl
theorem bd_125_1 : Bd 125 1 = (-2147483648, 2147483647) := rfl
theorem bd_125_2 : Bd 125 2 = (-2147483648, 2147483647) := rfl
theorem gs_126 : Gs[126]? = some (.inr (.inl (2, 30, true))) := rfl
theorem bd_126 {j : Nat} : Bd 126 j = (-9223372036854775808, 9223372036854775807) := rfl
theorem gs_127 : Gs[127]? = some (.inl (10, [none, none, some 128])) := rfl
theorem bd_127_0 : Bd 127 0 = (-1, 30) := rfl
theorem bd_127_1 : Bd 127 1 = (-2147483648, 2147483647) := rfl
theorem bd_127_2 : Bd 127 2 = (-2147483648, 2147483647) := rfl
theorem gs_128 : Gs[128]? = some (.inr (.inl (2, 30, true))) := rfl
theorem bd_128 {j : Nat} : Bd 128 j = (-9223372036854775808, 9223372036854775807) := rfl
theorem gs_129 : Gs[129]? = some (.inl (10, [none, none, some 130])) := rfl
theorem bd_129_0 : Bd 129 0 = (-1, 30) := rfl
theorem bd_129_1 : Bd 129 1 = (-2147483648, 2147483647) := rfl
theorem bd_129_2 : Bd 129 2 = (-2147483648, 2147483647) := rfl
theorem gs_130 : Gs[130]? = some (.inr (.inl (2, 30, true))) := rfl
theorem bd_130 {j : Nat} : Bd 130 j = (-9223372036854775808, 9223372036854775807) := rfl
theorem gs_131 : Gs[131]? = some (.inl (12, [some 132, some 133, some 134, some 135, none, some 136, none, none, none, none, none, none, none, none, none, none, none, some 137, some 138, none, some 139, some 140, none, none, none, none, none, none, none, some 141, some 142, none, none, some 143, some 144, none, none, some 145, some 146, some 147, none, some 148, some 149, some 150])) := rfl
theorem bd_131_0 : Bd 131 0 = (-2147483648, 2147483647) := rfl
theorem bd_131_1 : Bd 131 1 = (-2147483648, 2147483647) := rfl
theorem bd_131_2 : Bd 131 2 = (-2147483648, 2147483647) := rfl
theorem bd_131_3 : Bd 131 3 = (-2147483648, 2147483647) := rfl
theorem bd_131_4 : Bd 131 4 = (0, 3) := rfl
theorem bd_131_5 : Bd 131 5 = (-2147483648, 2147483647) := rfl
theorem bd_131_6 : Bd 131 6 = (0, 900) := rfl
theorem bd_131_7 : Bd 131 7 = (0, 900) := rfl
theorem bd_131_8 : Bd 131 8 = (0, 900) := rfl
theorem bd_131_9 : Bd 131 9 = (0, 900) := rfl
theorem bd_131_10 : Bd 131 10 = (-2147483648, 2147483647) := rfl
theorem bd_131_11 : Bd 131 11 = (0, 999) := rfl
theorem bd_131_12 : Bd 131 12 = (0, 4) := rfl
theorem bd_131_13 : Bd 131 13 = (0, 900) := rfl
theorem bd_131_14 : Bd 131 14 = (0, 4) := rfl
theorem bd_131_15 : Bd 131 15 = (-1, 900) := rfl
theorem bd_131_16 : Bd 131 16 = (-2147483648, 2147483647) := rfl
theorem bd_131_17 : Bd 131 17 = (-2147483648, 2147483647) := rfl
theorem bd_131_18 : Bd 131 18 = (-2147483648, 2147483647) := rfl
theorem bd_131_19 : Bd 131 19 = (-2147483648, 2147483647) := rfl
theorem bd_131_20 : Bd 131 20 = (-2147483648, 2147483647) := rfl
theorem bd_131_21 : Bd 131 21 = (-2147483648, 2147483647) := rfl
theorem bd_131_22 : Bd 131 22 = (-2147483648, 2147483647) := rfl
theorem bd_131_23 : Bd 131 23 = (-2147483648, 2147483647) := rfl
theorem bd_131_24 : Bd 131 24 = (-2147483648, 2147483647) := rfl
theorem bd_131_25 : Bd 131 25 = (-2147483648, 2147483647) := rfl
theorem bd_131_26 : Bd 131 26 = (0, 1) := rfl
theorem bd_131_27 : Bd 131 27 = (0, 50) := rfl
theorem bd_131_28 : Bd 131 28 = (0, 9) := rfl
theorem bd_131_29 : Bd 131 29 = (-2147483648, 2147483647) := rfl
theorem bd_131_30 : Bd 131 30 = (-2147483648, 2147483647) := rfl
theorem bd_131_31 : Bd 131 31 = (-2147483648, 2147483647) := rfl
theorem bd_131_32 : Bd 131 32 = (0, 1) := rfl
theorem bd_131_33 : Bd 131 33 = (-2147483648, 2147483647) := rfl
theorem bd_131_34 : Bd 131 34 = (-2147483648, 2147483647) := rfl
theorem bd_131_35 : Bd 131 35 = (-2147483648, 2147483647) := rfl
theorem bd_131_36 : Bd 131 36 = (0, 1) := rfl
theorem bd_131_37 : Bd 131 37 = (-2147483648, 2147483647) := rfl
theorem bd_131_38 : Bd 131 38 = (-2147483648, 2147483647) := rfl
theorem bd_131_39 : Bd 131 39 = (-2147483648, 2147483647) := rfl
theorem bd_131_40 : Bd 131 40 = (-2147483648, 2147483647) := rfl
theorem bd_131_41 : Bd 131 41 = (-2147483648, 2147483647) := rfl
theorem bd_131_42 : Bd 131 42 = (-2147483648, 2147483647) := rfl
theorem bd_131_43 : Bd 131 43 = (-2147483648, 2147483647) := rfl
theorem gs_132 : Gs[132]? = some (.inr (.inl (1, 1300, false))) := rfl
theorem bd_132 {j : Nat} : Bd 132 j = kn j := rfl
theorem gs_133 : Gs[133]? = some (.inr (.inl (1, 1300, false))) := rfl
theorem bd_133 {j : Nat} : Bd 133 j = kn j := rfl
theorem gs_134 : Gs[134]? = some (.inr (.inl (1, 3900, false))) := rfl
theorem bd_134 {j : Nat} : Bd 134 j = kn3 j := rfl
theorem gs_135 : Gs[135]? = some (.inr (.inl (3, 3, false))) := rfl
theorem bd_135 {j : Nat} : Bd 135 j = (0, 1) := rfl
theorem gs_136 : Gs[136]? = some (.inr (.inl (1, 900, false))) := rfl
theorem bd_136 {j : Nat} : Bd 136 j = (-2147483648, 2147483647) := rfl
theorem gs_137 : Gs[137]? = some (.inr (.inl (1, 64, false))) := rfl
theorem bd_137 {j : Nat} : Bd 137 j = (-2147483648, 2147483647) := rfl
theorem gs_138 : Gs[138]? = some (.inr (.inl (1, 18, false))) := rfl
theorem bd_138 {j : Nat} : Bd 138 j = as18 j := rfl
theorem gs_139 : Gs[139]? = some (.inr (.inl (1, 8, false))) := rfl
theorem bd_139 {j : Nat} : Bd 139 j = (0, 9) := rfl
theorem gs_140 : Gs[140]? = some (.inr (.inl (1, 8, false))) := rfl
theorem bd_140 {j : Nat} : Bd 140 j = (0, 9) := rfl
theorem gs_141 : Gs[141]? = some (.inr (.inl (1, 6, false))) := rfl
theorem bd_141 {j : Nat} : Bd 141 j = (-2147483648, 2147483647) := rfl
theorem gs_142 : Gs[142]? = some (.inr (.inl (1, 6, false))) := rfl
theorem bd_142 {j : Nat} : Bd 142 j = (-2147483648, 2147483647) := rfl
theorem gs_143 : Gs[143]? = some (.inr (.inl (1, 8, false))) := rfl
theorem bd_143 {j : Nat} : Bd 143 j = (0, 7) := rfl
theorem gs_144 : Gs[144]? = some (.inr (.inl (1, 8, false))) := rfl
theorem bd_144 {j : Nat} : Bd 144 j = (-2147483648, 2147483647) := rfl
theorem gs_145 : Gs[145]? = some (.inr (.inl (1, 10, false))) := rfl
theorem bd_145 {j : Nat} : Bd 145 j = (-1, 7) := rfl
theorem gs_146 : Gs[146]? = some (.inr (.inl (1, 4, false))) := rfl
theorem bd_146 {j : Nat} : Bd 146 j = (0, 8) := rfl
theorem gs_147 : Gs[147]? = some (.inr (.inl (1, 4, false))) := rfl
theorem bd_147 {j : Nat} : Bd 147 j = (0, 511) := rfl
theorem gs_148 : Gs[148]? = some (.inr (.inl (1, 4, false))) := rfl
theorem bd_148 {j : Nat} : Bd 148 j = (-1, 3) := rfl
theorem gs_149 : Gs[149]? = some (.inr (.inl (1, 4, false))) := rfl
theorem bd_149 {j : Nat} : Bd 149 j = (0, 30) := rfl
theorem gs_150 : Gs[150]? = some (.inr (.inl (2, 120, true))) := rfl
theorem bd_150 {j : Nat} : Bd 150 j = (-9223372036854775808, 9223372036854775807) := rfl
theorem gs_151 : Gs[151]? = some (.inr (.inl (2, 1, true))) := rfl
theorem bd_151 {j : Nat} : Bd 151 j = (-9223372036854775808, 9223372036854775807) := rfl
theorem sc_p {j : Nat} (h : j % 34 < 8) : sc34 j = (0, 9) := if_pos h
theorem sc_n {j : Nat} (h : 8 ≤ j % 34) : sc34 j = (-2147483648, 2147483647) := if_neg (by omega)
theorem as_p {j : Nat} (h : j % 18 < 8) : as18 j = (0, 9) := if_pos h
theorem as_n {j : Nat} (h : 8 ≤ j % 18) : as18 j = (-2147483648, 2147483647) := if_neg (by omega)
theorem kn_at {j : Nat} (h1 : 8 ≤ j) (h2 : j < 16) : kn j = (0, 9) := by unfold kn; rw [if_neg (by omega), if_pos h2]
theorem kn_any {j : Nat} (h1 : 16 ≤ j) (h2 : j < 50) : kn j = (-2147483648, 2147483647) := by unfold kn; rw [if_neg (by omega), if_neg (by omega), if_pos h2]
theorem kn_touch {j : Nat} (h1 : 50 ≤ j) (h2 : j < 150) : kn j = (0, 2) := by unfold kn; rw [if_neg (by omega), if_neg (by omega), if_neg (by omega), if_pos h2]
theorem kn_ev0 {j : Nat} (h1 : 150 ≤ j) (h2 : j < 168) (h : j % 3 = 0) : kn j = (0, 999) := by unfold kn; rw [if_neg (by omega), if_neg (by omega), if_neg (by omega), if_neg (by omega), if_pos h2, if_pos h]
theorem kn_ev1 {j : Nat} (h1 : 150 ≤ j) (h2 : j < 168) (h : j % 3 = 1) : kn j = (0, 7) := by unfold kn; rw [if_neg (by omega), if_neg (by omega), if_neg (by omega), if_neg (by omega), if_pos h2, if_neg (by omega), if_pos h]
theorem kn_ev2 {j : Nat} (h1 : 150 ≤ j) (h2 : j < 168) (h : j % 3 = 2) : kn j = (-9, 9) := by unfold kn; rw [if_neg (by omega), if_neg (by omega), if_neg (by omega), if_neg (by omega), if_pos h2, if_neg (by omega), if_neg (by omega)]
theorem kn_un {j : Nat} (h1 : 168 ≤ j) (h2 : j < 384) : kn j = as18 (j - 168) := by unfold kn; rw [if_neg (by omega), if_neg (by omega), if_neg (by omega), if_neg (by omega), if_neg (by omega), if_pos h2]
theorem kn_un_p {j : Nat} (h1 : 168 ≤ j) (h2 : j < 384) (h : (j - 168) % 18 < 8) : kn j = (0, 9) := (kn_un h1 h2).trans (as_p h)
theorem kn_un_n {j : Nat} (h1 : 168 ≤ j) (h2 : j < 384) (h : 8 ≤ (j - 168) % 18) : kn j = (-2147483648, 2147483647) := (kn_un h1 h2).trans (as_n h)
theorem kn_step {j : Nat} (h1 : 384 ≤ j) : kn j = (0, 1999) := by unfold kn; rw [if_neg (by omega), if_neg (by omega), if_neg (by omega), if_neg (by omega), if_neg (by omega), if_neg (by omega)]
theorem bq_as {i y : Int} (hi : i = 8 + y) (h0 : 0 ≤ y) (h1 : y < 18) : kn i.toNat = as18 y.toNat := by
  rcases Int.lt_or_le y 8 with h | h
  · rw [kn_at (by omega) (by omega), as_p (by omega)]
  · rw [kn_any (by omega) (by omega), as_n (by omega)]
theorem bq_un {i y : Int} (d : Int) (hi : i = 168 + 18 * d + y) (hd : 0 ≤ d) (hd2 : d ≤ 11) (h0 : 0 ≤ y) (h1 : y < 18) : kn i.toNat = as18 y.toNat := by
  rcases Int.lt_or_le y 8 with h | h
  · rw [kn_un_p (by omega) (by omega) (by omega), as_p (by omega)]
  · rw [kn_un_n (by omega) (by omega) (by omega), as_n (by omega)]
theorem bq_18 {i j : Int} (hj : j = i + 18) (h0 : 168 ≤ i) (h1 : j < 384) : kn i.toNat = kn j.toNat := by
  rcases Int.lt_or_le ((i - 168) % 18) 8 with h | h
  · rw [kn_un_p (by omega) (by omega) (by omega), kn_un_p (by omega) (by omega) (by omega)]
  · rw [kn_un_n (by omega) (by omega) (by omega), kn_un_n (by omega) (by omega) (by omega)]
theorem bq_im {i k : Int} (d : Int) (hi : i = 1300 * d + k) (hd : 0 ≤ d) (h0 : 0 ≤ k) (h1 : k < 1300) : kn3 i.toNat = kn k.toNat := by
  show kn (i.toNat % 1300) = _
  rw [show i.toNat % 1300 = k.toNat by omega]
theorem bq_in {p q : Int × Int} {v : Int} (e : p = q) (a : q.1 ≤ v) (b : v ≤ q.2) : p.1 ≤ v ∧ v ≤ p.2 := by subst e; exact ⟨a, b⟩
theorem as_w {j : Nat} : -2147483648 ≤ (as18 j).1 ∧ (as18 j).2 ≤ 2147483647 := by
  rcases Nat.lt_or_ge (j % 18) 8 with h | h
  · rw [as_p h]; decide
  · rw [as_n h]; decide
theorem sc_w {j : Nat} : -2147483648 ≤ (sc34 j).1 ∧ (sc34 j).2 ≤ 2147483647 := by
  rcases Nat.lt_or_ge (j % 34) 8 with h | h
  · rw [sc_p h]; decide
  · rw [sc_n h]; decide
theorem kn_0 {j : Nat} : (kn j).1 ≤ 0 ∧ 0 ≤ (kn j).2 := by
  by_cases h0 : j < 8
  · have : j = 0 ∨ j = 1 ∨ j = 2 ∨ j = 3 ∨ j = 4 ∨ j = 5 ∨ j = 6 ∨ j = 7 := by omega
    rcases this with h | h | h | h | h | h | h | h <;> subst h <;> decide
  · rcases Nat.lt_or_ge j 16 with h | h
    · rw [kn_at (by omega) h]; decide
    rcases Nat.lt_or_ge j 50 with h' | h'
    · rw [kn_any h h']; decide
    rcases Nat.lt_or_ge j 150 with h2 | h2
    · rw [kn_touch h' h2]; decide
    rcases Nat.lt_or_ge j 168 with h3 | h3
    · have : j % 3 = 0 ∨ j % 3 = 1 ∨ j % 3 = 2 := by omega
      rcases this with q | q | q
      · rw [kn_ev0 h2 h3 q]; decide
      · rw [kn_ev1 h2 h3 q]; decide
      · rw [kn_ev2 h2 h3 q]; decide
    rcases Nat.lt_or_ge j 384 with h4 | h4
    · rcases Nat.lt_or_ge ((j - 168) % 18) 8 with q | q
      · rw [kn_un_p h3 h4 q]; decide
      · rw [kn_un_n h3 h4 q]; decide
    · rw [kn_step h4]; decide
theorem kn_w {j : Nat} : -2147483648 ≤ (kn j).1 ∧ (kn j).2 ≤ 2147483647 := by
  by_cases h0 : j < 8
  · have : j = 0 ∨ j = 1 ∨ j = 2 ∨ j = 3 ∨ j = 4 ∨ j = 5 ∨ j = 6 ∨ j = 7 := by omega
    rcases this with h | h | h | h | h | h | h | h <;> subst h <;> decide
  · rcases Nat.lt_or_ge j 16 with h | h
    · rw [kn_at (by omega) h]; decide
    rcases Nat.lt_or_ge j 50 with h' | h'
    · rw [kn_any h h']; decide
    rcases Nat.lt_or_ge j 150 with h2 | h2
    · rw [kn_touch h' h2]; decide
    rcases Nat.lt_or_ge j 168 with h3 | h3
    · have : j % 3 = 0 ∨ j % 3 = 1 ∨ j % 3 = 2 := by omega
      rcases this with q | q | q
      · rw [kn_ev0 h2 h3 q]; decide
      · rw [kn_ev1 h2 h3 q]; decide
      · rw [kn_ev2 h2 h3 q]; decide
    rcases Nat.lt_or_ge j 384 with h4 | h4
    · rcases Nat.lt_or_ge ((j - 168) % 18) 8 with q | q
      · rw [kn_un_p h3 h4 q]; decide
      · rw [kn_un_n h3 h4 q]; decide
    · rw [kn_step h4]; decide
theorem kn3_w {j : Nat} : -2147483648 ≤ (kn3 j).1 ∧ (kn3 j).2 ≤ 2147483647 := kn_w
end GRAPH
