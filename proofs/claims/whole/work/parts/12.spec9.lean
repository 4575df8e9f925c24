/-! writing by eights and by sixteens; orders -/
def en8 (v : Nat) : List Nat := if v < 128 then [v] else if v < 2048 then [192 + v / 64, 128 + v % 64] else if v < 65536 then [224 + v / 4096, 128 + v / 64 % 64, 128 + v % 64] else [240 + v / 262144, 128 + v / 4096 % 64, 128 + v / 64 % 64, 128 + v % 64]
theorem en8_1 {v : Nat} (h : v < 128) : en8 v = [v] := by unfold en8; rw [if_pos h]
theorem en8_2 {v : Nat} (h : 128 ≤ v) (h2 : v < 2048) : en8 v = [192 + v / 64, 128 + v % 64] := by unfold en8; rw [if_neg (by omega), if_pos h2]
theorem en8_3 {v : Nat} (h : 2048 ≤ v) (h2 : v < 65536) : en8 v = [224 + v / 4096, 128 + v / 64 % 64, 128 + v % 64] := by unfold en8; rw [if_neg (by omega), if_neg (by omega), if_pos h2]
theorem en8_4 {v : Nat} (h : 65536 ≤ v) : en8 v = [240 + v / 262144, 128 + v / 4096 % 64, 128 + v / 64 % 64, 128 + v % 64] := by unfold en8; rw [if_neg (by omega), if_neg (by omega), if_neg (by omega)]
def fu (v : Nat) : Nat := if v < 65536 then v else 55296 + (v - 65536) / 1024
def en16 (v : Nat) : List Nat := if v < 65536 then [v] else [fu v, 56320 + v % 1024]
theorem en16_1 {v : Nat} (h : v < 65536) : en16 v = [fu v] := by unfold en16 fu; rw [if_pos h, if_pos h]
theorem en16_2 {v : Nat} (h : 65536 ≤ v) : en16 v = [fu v, 56320 + v % 1024] := by unfold en16; rw [if_neg (by omega)]
abbrev scI (x : Int32) : Prop := (0 ≤ x.toInt ∧ x.toInt ≤ 1114111) ∧ ¬ (55296 ≤ x.toInt ∧ x.toInt ≤ 57343)
def ooN (x y : Nat) : Int32 := if x = y then 0 else if x < y then -1 else 1
def oo16 (x y : Nat) : Int32 := if ooN (fu x) (fu y) = 0 then ooN x y else ooN (fu x) (fu y)
theorem fu_b {v : Nat} (h : v ≤ 1114111) : fu v < 2 ^ 20 := by unfold fu; split <;> omega
