/-! The class's data, by program out of the printed tables: names, fields, methods, links, by their places in lw_tbl. -/
def xi_cn : Nat → String := fun c => match c with
  | 0 => "TowerRing$Changes"
  | 1 => "TowerRing$Game"
  | 2 => "TowerRing$GameText"
  | 3 => "TowerRing$Positions"
  | 4 => "TowerRing$Ring"
  | 5 => "TowerRing$Search"
  | 6 => "TowerRing"
  | 7 => "TowerRingModel"
  | 8 => "TowerRingLaw"
  | 9 => "java/lang/Integer"
  | 10 => "java/lang/String"
  | _ => "java/lang/StringLatin1"
def xi_T0 : u_T := fun k => match k with
  | 0 => ("TowerRing$Changes", "games", "[LTowerRing$Game;", true)
  | 1 => ("TowerRing$Changes", "kept", "I", false)
  | _ => ("TowerRing$Changes", "next", "I", false)
def xi_T1 : u_T := fun k => match k with
  | 0 => ("TowerRing$Game", "ring", "LTowerRing$Ring;", true)
  | 1 => ("TowerRing$Game", "reserves", "[I", true)
  | 2 => ("TowerRing$Game", "prisoners", "[I", true)
  | 3 => ("TowerRing$Game", "positions", "LTowerRing$Positions;", true)
  | 4 => ("TowerRing$Game", "turn", "I", false)
  | 5 => ("TowerRing$Game", "movesMade", "I", false)
  | 6 => ("TowerRing$Game", "period", "I", false)
  | _ => ("TowerRing$Game", "goal", "I", false)
def xi_T2 : u_T := fun k => match k with
  | 0 => ("TowerRing$GameText", "bytes", "[B", true)
  | 1 => ("TowerRing$GameText", "filled", "I", false)
  | 2 => ("TowerRing$GameText", "game", "LTowerRing$Game;", true)
  | 3 => ("TowerRing$GameText", "error", "I", false)
  | 4 => ("TowerRing$GameText", "errorStart", "I", false)
  | 5 => ("TowerRing$GameText", "length", "I", false)
  | 6 => ("TowerRing$GameText", "kind", "I", false)
  | 7 => ("TowerRing$GameText", "tokenStart", "I", false)
  | 8 => ("TowerRing$GameText", "tokenEnd", "I", false)
  | _ => ("TowerRing$GameText", "number", "I", false)
def xi_T3 : u_T := fun k => match k with
  | 0 => ("TowerRing$Positions", "keys", "[J", true)
  | 1 => ("TowerRing$Positions", "kept", "I", false)
  | _ => ("TowerRing$Positions", "next", "I", false)
def xi_T4 : u_T := fun k => match k with
  | 0 => ("TowerRing$Ring", "caps", "[I", true)
  | 1 => ("TowerRing$Ring", "heights", "[I", true)
  | 2 => ("TowerRing$Ring", "pieces", "[I", true)
  | _ => ("TowerRing$Ring", "size", "I", false)
def xi_T5 : u_T := fun k => match k with
  | 0 => ("TowerRing$Search", "behind", "LTowerRing$Game;", true)
  | _ => ("TowerRing$Search", "answered", "LTowerRing$Game;", true)
def xi_T6 : u_T := fun k => match k with
  | 0 => ("TowerRing", "game", "LTowerRing$Game;", true)
  | 1 => ("TowerRing", "search", "LTowerRing$Search;", true)
  | 2 => ("TowerRing", "changes", "LTowerRing$Changes;", true)
  | 3 => ("TowerRing", "slots", "[LTowerRing$Game;", true)
  | 4 => ("TowerRing", "slotIsUsed", "[Z", true)
  | 5 => ("TowerRing", "text", "LTowerRing$GameText;", true)
  | 6 => ("TowerRing", "written", "[B", true)
  | 7 => ("TowerRing", "writtenLength", "I", false)
  | _ => ("TowerRing", "latestErrorPosition", "I", false)
def xi_T7 : u_T := fun k => match k with
  | 0 => ("TowerRingModel", "a", "[I", true)
  | 1 => ("TowerRingModel", "fresh", "[I", true)
  | 2 => ("TowerRingModel", "aside", "[I", true)
  | 3 => ("TowerRingModel", "before", "[I", true)
  | 4 => ("TowerRingModel", "kept", "[I", true)
  | 5 => ("TowerRingModel", "slots", "[I", true)
  | 6 => ("TowerRingModel", "isSaved", "[Z", true)
  | 7 => ("TowerRingModel", "keptMany", "I", false)
  | 8 => ("TowerRingModel", "thrown", "I", false)
  | 9 => ("TowerRingModel", "buffer", "[I", true)
  | 10 => ("TowerRingModel", "buffered", "I", false)
  | 11 => ("TowerRingModel", "size", "I", false)
  | 12 => ("TowerRingModel", "at", "I", false)
  | 13 => ("TowerRingModel", "behind", "I", false)
  | 14 => ("TowerRingModel", "kind", "I", false)
  | 15 => ("TowerRingModel", "number", "I", false)
  | 16 => ("TowerRingModel", "wrong", "I", false)
  | 17 => ("TowerRingModel", "wrongAt", "I", false)
  | 18 => ("TowerRingModel", "errorAt", "I", false)
  | 19 => ("TowerRingModel", "pile", "[I", true)
  | 20 => ("TowerRingModel", "high", "[I", true)
  | 21 => ("TowerRingModel", "lastStolen", "I", false)
  | 22 => ("TowerRingModel", "givings", "I", false)
  | 23 => ("TowerRingModel", "written", "[I", true)
  | _ => ("TowerRingModel", "writtenMany", "I", false)
def xi_cl : List vw_C := [(xi_cn 0, xi_T0, 3), (xi_cn 1, xi_T1, 8), (xi_cn 2, xi_T2, 10), (xi_cn 3, xi_T3, 3), (xi_cn 4, xi_T4, 4), (xi_cn 5, xi_T5, 2), (xi_cn 6, xi_T6, 9), (xi_cn 7, xi_T7, 25)]
def xi_cok (q : vw_C) : Bool := (u_ws q.1 q.2.1 q.2.2).all (fun w => decide (w ∈ lw_tbl) && goodWord w) && (List.range q.2.2).all (fun k => (parseFieldDescriptor (q.2.1 k).2.2.1).isSome && decide ((q.2.1 k).1 = q.1) && (List.range q.2.2).all (fun j => decide (k = j) || decide ((q.2.1 k).2.1 ≠ (q.2.1 j).2.1)))
theorem xi_cl_ok : xi_cl.all xi_cok = true := by decide +kernel
def xi_df : Nat → List Value := fun c => match c with
  | 0 => [.null, .int 0, .int 0]
  | 1 => [.null, .null, .null, .null, .int 0, .int 0, .int 0, .int 0]
  | 2 => [.null, .int 0, .null, .int 0, .int 0, .int 0, .int 0, .int 0, .int 0, .int 0]
  | 3 => [.null, .int 0, .int 0]
  | 4 => [.null, .null, .null, .int 0]
  | 5 => [.null, .null]
  | 6 => [.null, .null, .null, .null, .null, .null, .null, .int 0, .int 0]
  | 7 => [.null, .null, .null, .null, .null, .null, .null, .int 0, .int 0, .null, .int 0, .int 0, .int 0, .int 0, .int 0, .int 0, .int 0, .int 0, .int 0, .null, .null, .int 0, .int 0, .null, .int 0]
  | _ => []
theorem xi_df_ok : (List.range 8).all (fun c => match xi_cl[c]? with
  | some q => (List.range q.2.2).all (fun j => decide (defaultValue ((parseFieldDescriptor (q.2.1 j).2.2.1).getD .int) = vp_V (xi_df c) j)) && decide ((xi_df c).length = q.2.2)
  | none => false) = true := by decide +kernel
/-- the places of fields: (class that asks, entry), (class, slot), place of the word -/
def xi_fl : List (Nat × Nat × Nat × Nat × Nat) := [(0, 11, 0, 0, 226), (0, 17, 0, 1, 227), (0, 21, 0, 2, 229), (1, 12, 1, 0, 160), (1, 18, 1, 1, 164), (1, 22, 1, 2, 167), (1, 28, 1, 3, 169), (1, 39, 1, 4, 172), (1, 43, 1, 5, 176), (1, 46, 1, 6, 178), (1, 49, 1, 7, 181), (1, 76, 4, 3, 127), (1, 93, 4, 1, 120), (1, 96, 4, 0, 117), (2, 9, 2, 0, 245), (2, 15, 2, 1, 246), (2, 22, 2, 2, 248), (2, 26, 2, 3, 250), (2, 29, 2, 4, 252), (2, 38, 2, 5, 254), (2, 41, 2, 8, 257), (2, 54, 2, 6, 255), (2, 81, 1, 0, 163), (2, 85, 4, 0, 115), (2, 90, 2, 9, 258), (2, 93, 4, 3, 126), (2, 120, 1, 6, 180), (2, 122, 1, 7, 183), (2, 124, 1, 1, 166), (2, 127, 1, 4, 175), (2, 129, 2, 7, 256), (2, 132, 4, 1, 121), (3, 11, 3, 0, 144), (3, 15, 3, 1, 145), (3, 19, 3, 2, 146), (4, 9, 4, 0, 114), (4, 15, 4, 1, 118), (4, 18, 4, 2, 122), (4, 25, 4, 3, 123), (5, 12, 5, 0, 209), (5, 18, 5, 1, 211), (5, 36, 1, 3, 170), (5, 50, 1, 0, 162), (5, 54, 4, 3, 124), (5, 77, 1, 4, 174), (6, 12, 6, 0, 306), (6, 19, 6, 1, 307), (6, 26, 6, 2, 308), (6, 30, 6, 3, 309), (6, 34, 6, 4, 310), (6, 41, 6, 5, 311), (6, 45, 6, 6, 312), (6, 49, 6, 7, 313), (6, 53, 6, 8, 314), (6, 74, 2, 1, 247), (6, 89, 2, 4, 253), (6, 92, 2, 3, 251), (6, 99, 2, 2, 249), (6, 103, 1, 0, 161), (6, 113, 4, 3, 125), (6, 116, 1, 4, 173), (6, 119, 1, 5, 177), (6, 122, 1, 6, 179), (6, 125, 1, 7, 182), (6, 151, 4, 0, 116), (6, 155, 4, 1, 119), (6, 183, 1, 1, 165), (6, 186, 1, 2, 168), (6, 245, 5, 0, 210), (6, 291, 0, 1, 228), (6, 312, 1, 3, 171), (7, 7, 7, 0, 1089), (7, 13, 7, 1, 1090), (7, 16, 7, 2, 1091), (7, 19, 7, 3, 1092), (7, 22, 7, 4, 1093), (7, 25, 7, 5, 1094), (7, 28, 7, 6, 1095), (7, 32, 7, 9, 1098), (7, 35, 7, 18, 1107), (7, 39, 7, 19, 1108), (7, 42, 7, 20, 1109), (7, 45, 7, 23, 1112), (7, 58, 7, 8, 1097), (7, 61, 7, 7, 1096), (7, 78, 7, 10, 1099), (7, 81, 7, 11, 1100), (7, 84, 7, 13, 1102), (7, 87, 7, 12, 1101), (7, 94, 7, 14, 1103), (7, 104, 7, 15, 1104), (7, 107, 7, 16, 1105), (7, 119, 7, 17, 1106), (7, 220, 7, 21, 1110), (7, 226, 7, 22, 1111), (7, 278, 7, 24, 1113)]
def xi_flok (e : Nat × Nat × Nat × Nat × Nat) : Bool := match xi_cl[e.2.2.1]? with
  | some q => decide (e.2.2.2.1 < q.2.2) && decide (lw_tbl[e.2.2.2.2]? = some (Cond.fieldLink (xi_cn e.1) e.2.1 q.1 (q.2.1 e.2.2.2.1).2.1 (q.2.1 e.2.2.2.1).2.2.1))
  | none => false
theorem xi_fl_ok : xi_fl.all xi_flok = true := by decide +kernel
def xi_fld (own idx : Nat) : Option (Nat × Nat) := (xi_fl.find? (fun e => e.1 == own && e.2.1 == idx)).map (fun e => (e.2.2.1, e.2.2.2.1))
