abbrev R_L_isSample : Room := { frames := 7, cells := 6, slots := 57, locals := 163 }
def r_L_isSample_at828 (x1 : Int32) (y1 : Int32) (S : SS) (y : HS) (v : Int32) : Int32 := v
abbrev c_L_isSample_1_at828 (x1 : Int32) (y1 : Int32) (S : SS) (y : HS) (v : Int32) : SS := (c_X4_sample_1 x1 y1 S y)
abbrev c_L_isSample_y_at828 (x1 : Int32) (y1 : Int32) (S : SS) (y : HS) (v : Int32) : HS := (c_X4_sample_y x1 y1 S y)
def r_L_isSample_at764 (x1 : Int32) (y1 : Int32) (S : SS) (y : HS) (v : Int32) : Int32 := if v = 0 then (r_L_isSample_at828 x1 y1 S y 0) else (if (r_L_size (x1 - ((S.1 7) / 16))) < (r_L_size (y1 - ((S.1 8) / 16))) then (if (r_L_size (y1 - ((S.1 8) / 16))) < (r_L_size (x1 - ((S.1 7) / 16))) then (r_L_isSample_at828 x1 y1 S y 1) else (if (r_L_size ((((c_X4_sample_1 x1 y1 S y).1 15) + 100) - 100)) < (r_L_size ((((c_X4_sample_1 x1 y1 S y).1 14) + 100) - 100)) then (r_L_isSample_at828 x1 y1 S y 0) else (r_L_isSample_at828 x1 y1 S y 1))) else (if (r_L_size ((((c_X4_sample_1 x1 y1 S y).1 14) + 100) - 100)) < (r_L_size ((((c_X4_sample_1 x1 y1 S y).1 15) + 100) - 100)) then (r_L_isSample_at828 x1 y1 S y 0) else (if (r_L_size (y1 - ((S.1 8) / 16))) < (r_L_size (x1 - ((S.1 7) / 16))) then (r_L_isSample_at828 x1 y1 S y 1) else (if (r_L_size ((((c_X4_sample_1 x1 y1 S y).1 15) + 100) - 100)) < (r_L_size ((((c_X4_sample_1 x1 y1 S y).1 14) + 100) - 100)) then (r_L_isSample_at828 x1 y1 S y 0) else (r_L_isSample_at828 x1 y1 S y 1)))))
abbrev c_L_isSample_1_at764 (x1 : Int32) (y1 : Int32) (S : SS) (y : HS) (v : Int32) : SS := (c_X4_sample_1 x1 y1 S y)
abbrev c_L_isSample_y_at764 (x1 : Int32) (y1 : Int32) (S : SS) (y : HS) (v : Int32) : HS := (c_X4_sample_y x1 y1 S y)
def r_L_isSample_at687 (x1 : Int32) (y1 : Int32) (S : SS) (y : HS) (v : Int32) : Int32 := v
abbrev c_L_isSample_1_at687 (x1 : Int32) (y1 : Int32) (S : SS) (y : HS) (v : Int32) : SS := (c_X4_sample_1 x1 y1 S y)
abbrev c_L_isSample_y_at687 (x1 : Int32) (y1 : Int32) (S : SS) (y : HS) (v : Int32) : HS := (c_X4_sample_y x1 y1 S y)
def r_L_isSample_at626 (x1 : Int32) (y1 : Int32) (S : SS) (y : HS) (v : Int32) (dr : Int32) : Int32 := if dr = 0 then (if v = 0 then (r_L_isSample_at764 x1 y1 S y 0) else (if ((c_X4_sample_1 x1 y1 S y).1 7) = (S.1 7) then (if ((c_X4_sample_1 x1 y1 S y).1 8) = (S.1 8) then (if (((((c_X4_sample_1 x1 y1 S y).1 14) + 100) - 100) * (x1 - ((S.1 7) / 16))) < 0 then (r_L_isSample_at764 x1 y1 S y 0) else (if (((((c_X4_sample_1 x1 y1 S y).1 15) + 100) - 100) * (y1 - ((S.1 8) / 16))) < 0 then (r_L_isSample_at764 x1 y1 S y 0) else (if (S.1 9) < (r_L_size (x1 - ((S.1 7) / 16))) then (if (S.1 9) < (r_L_size (y1 - ((S.1 8) / 16))) then (r_L_isSample_at764 x1 y1 S y 1) else (if ((((c_X4_sample_1 x1 y1 S y).1 15) + 100) - 100) = 0 then (r_L_isSample_at764 x1 y1 S y 1) else (r_L_isSample_at764 x1 y1 S y 0))) else (if ((((c_X4_sample_1 x1 y1 S y).1 14) + 100) - 100) = 0 then (if (S.1 9) < (r_L_size (y1 - ((S.1 8) / 16))) then (r_L_isSample_at764 x1 y1 S y 1) else (if ((((c_X4_sample_1 x1 y1 S y).1 15) + 100) - 100) = 0 then (r_L_isSample_at764 x1 y1 S y 1) else (r_L_isSample_at764 x1 y1 S y 0))) else (r_L_isSample_at764 x1 y1 S y 0))))) else (r_L_isSample_at764 x1 y1 S y 0)) else (r_L_isSample_at764 x1 y1 S y 0))) else (if v = 0 then (r_L_isSample_at687 x1 y1 S y 0) else (if ((((c_X4_sample_1 x1 y1 S y).1 14) + 100) - 100) = 0 then (if ((((c_X4_sample_1 x1 y1 S y).1 15) + 100) - 100) = 0 then (if ((c_X4_sample_1 x1 y1 S y).1 7) = (16 * x1) then (if ((c_X4_sample_1 x1 y1 S y).1 8) = (16 * y1) then (if ((c_X4_sample_1 x1 y1 S y).1 12) = 0 then (r_L_isSample_at687 x1 y1 S y 1) else (r_L_isSample_at687 x1 y1 S y 0)) else (r_L_isSample_at687 x1 y1 S y 0)) else (r_L_isSample_at687 x1 y1 S y 0)) else (r_L_isSample_at687 x1 y1 S y 0)) else (r_L_isSample_at687 x1 y1 S y 0)))
abbrev c_L_isSample_1_at626 (x1 : Int32) (y1 : Int32) (S : SS) (y : HS) (v : Int32) (dr : Int32) : SS := (c_X4_sample_1 x1 y1 S y)
abbrev c_L_isSample_y_at626 (x1 : Int32) (y1 : Int32) (S : SS) (y : HS) (v : Int32) (dr : Int32) : HS := (c_X4_sample_y x1 y1 S y)
def r_L_isSample_at568 (x1 : Int32) (y1 : Int32) (S : SS) (y : HS) (v : Int32) : Int32 := if ((c_X4_sample_1 x1 y1 S y).1 16) = (S.1 16) then (if ((c_X4_sample_1 x1 y1 S y).1 20) = (S.1 20) then (if ((c_X4_sample_1 x1 y1 S y).1 9) = (S.1 9) then (if v = 0 then (if ((c_X4_sample_1 x1 y1 S y).1 17) = ((S.1 17) + 0) then (r_L_isSample_at626 x1 y1 S y 1 v) else (r_L_isSample_at626 x1 y1 S y 0 v)) else (if ((c_X4_sample_1 x1 y1 S y).1 17) = ((S.1 17) + 1) then (r_L_isSample_at626 x1 y1 S y 1 v) else (r_L_isSample_at626 x1 y1 S y 0 v))) else (r_L_isSample_at626 x1 y1 S y 0 v)) else (r_L_isSample_at626 x1 y1 S y 0 v)) else (r_L_isSample_at626 x1 y1 S y 0 v)
abbrev c_L_isSample_1_at568 (x1 : Int32) (y1 : Int32) (S : SS) (y : HS) (v : Int32) : SS := (c_X4_sample_1 x1 y1 S y)
abbrev c_L_isSample_y_at568 (x1 : Int32) (y1 : Int32) (S : SS) (y : HS) (v : Int32) : HS := (c_X4_sample_y x1 y1 S y)
def r_L_isSample_at526 (x1 : Int32) (y1 : Int32) (S : SS) (y : HS) (v : Int32) : Int32 := v
abbrev c_L_isSample_1_at526 (x1 : Int32) (y1 : Int32) (S : SS) (y : HS) (v : Int32) : SS := (c_X4_sample_1 x1 y1 S y)
abbrev c_L_isSample_y_at526 (x1 : Int32) (y1 : Int32) (S : SS) (y : HS) (v : Int32) : HS := (c_X4_sample_y x1 y1 S y)
def r_L_isSample_at351 (x1 : Int32) (y1 : Int32) (S : SS) (y : HS) (v : Int32) : Int32 := if v = 0 then (r_L_isSample_at526 x1 y1 S y 0) else (if 0 < (S.1 13) then (if ((c_X4_sample_1 x1 y1 S y).1 20) = ((S.1 20) + 1) then (if ((c_X4_sample_1 x1 y1 S y).1 9) = (S.1 9) then (if ((c_X4_sample_1 x1 y1 S y).1 7) = (S.1 7) then (if ((c_X4_sample_1 x1 y1 S y).1 8) = (S.1 8) then (r_L_isSample_at526 x1 y1 S y 1) else (r_L_isSample_at526 x1 y1 S y 0)) else (r_L_isSample_at526 x1 y1 S y 0)) else (r_L_isSample_at526 x1 y1 S y 0)) else (r_L_isSample_at526 x1 y1 S y 0)) else (if ((c_X4_sample_1 x1 y1 S y).1 20) = (S.1 20) then (if ((c_X4_sample_1 x1 y1 S y).1 7) = ((S.1 7) + (((16 * x1) - (S.1 7)) / ((c_X4_sample_1 x1 y1 S y).2.1 0))) then (if ((c_X4_sample_1 x1 y1 S y).1 8) = ((S.1 8) + (((16 * y1) - (S.1 8)) / ((c_X4_sample_1 x1 y1 S y).2.1 0))) then (if (r_L_size (((c_X4_sample_1 x1 y1 S y).1 9) - (S.1 9))) < 2 then (if (S.1 9) < (2 * (r_L_greater (r_L_size (x1 - ((S.1 7) / 16))) (r_L_size (y1 - ((S.1 8) / 16))))) then (if ((c_X4_sample_1 x1 y1 S y).1 9) < (S.1 9) then (r_L_isSample_at526 x1 y1 S y 0) else (if (S.1 9) < (4 * (r_L_greater (r_L_size (x1 - ((S.1 7) / 16))) (r_L_size (y1 - ((S.1 8) / 16))))) then (r_L_isSample_at526 x1 y1 S y 1) else (if (S.1 9) < ((c_X4_sample_1 x1 y1 S y).1 9) then (r_L_isSample_at526 x1 y1 S y 0) else (r_L_isSample_at526 x1 y1 S y 1)))) else (if (S.1 9) < (4 * (r_L_greater (r_L_size (x1 - ((S.1 7) / 16))) (r_L_size (y1 - ((S.1 8) / 16))))) then (r_L_isSample_at526 x1 y1 S y 1) else (if (S.1 9) < ((c_X4_sample_1 x1 y1 S y).1 9) then (r_L_isSample_at526 x1 y1 S y 0) else (r_L_isSample_at526 x1 y1 S y 1)))) else (r_L_isSample_at526 x1 y1 S y 0)) else (r_L_isSample_at526 x1 y1 S y 0)) else (r_L_isSample_at526 x1 y1 S y 0)) else (r_L_isSample_at526 x1 y1 S y 0)))
abbrev c_L_isSample_1_at351 (x1 : Int32) (y1 : Int32) (S : SS) (y : HS) (v : Int32) : SS := (c_X4_sample_1 x1 y1 S y)
abbrev c_L_isSample_y_at351 (x1 : Int32) (y1 : Int32) (S : SS) (y : HS) (v : Int32) : HS := (c_X4_sample_y x1 y1 S y)
def r_L_isSample_at171 (x1 : Int32) (y1 : Int32) (S : SS) (y : HS) (v : Int32) (was : Int32) : Int32 := if (r_X4_sample x1 y1 S y) = (r_X4_wouldTell x1 y1 S) then (if ((c_X4_sample_1 x1 y1 S y).1 21) = ((S.1 21) + 1) then (if 0 < (S.1 13) then (if ((c_X4_sample_1 x1 y1 S y).1 13) = ((S.1 13) - 1) then (if (r_X4_wouldTell x1 y1 S) = ((1000 * (((c_X4_sample_1 x1 y1 S y).1 14) + 100)) + (((c_X4_sample_1 x1 y1 S y).1 15) + 100)) then (if (S.1 9) < (r_L_greater (r_L_size (x1 - ((S.1 7) / 16))) (r_L_size (y1 - ((S.1 8) / 16)))) then (if (S.1 13) = 0 then (if v = 0 then (if 0 < ((c_X4_sample_1 x1 y1 S y).2.1 5) then (r_L_isSample_at568 x1 y1 S y 0) else (if ((S.1 9) + 8) < (r_L_greater (r_L_size (x1 - ((S.1 7) / 16))) (r_L_size (y1 - ((S.1 8) / 16)))) then (r_L_isSample_at568 x1 y1 S y 0) else (r_L_isSample_at568 x1 y1 S y 1))) else (if ((S.1 12) + 1) < ((c_X4_sample_1 x1 y1 S y).2.1 5) then (r_L_isSample_at568 x1 y1 S y 0) else (if ((S.1 9) + 8) < (r_L_greater (r_L_size (x1 - ((S.1 7) / 16))) (r_L_size (y1 - ((S.1 8) / 16)))) then (r_L_isSample_at568 x1 y1 S y 0) else (r_L_isSample_at568 x1 y1 S y 1)))) else (r_L_isSample_at568 x1 y1 S y 0)) else (if ((((c_X4_sample_1 x1 y1 S y).1 14) + 100) - 100) = 0 then (if ((((c_X4_sample_1 x1 y1 S y).1 15) + 100) - 100) = 0 then (if was = 0 then (if ((c_X4_sample_1 x1 y1 S y).1 16) = ((S.1 16) + 0) then (if ((c_X4_sample_1 x1 y1 S y).1 17) = (S.1 17) then (if v = 0 then (if ((c_X4_sample_1 x1 y1 S y).1 12) = 0 then (r_L_isSample_at351 x1 y1 S y 1) else (r_L_isSample_at351 x1 y1 S y 0)) else (if ((c_X4_sample_1 x1 y1 S y).1 12) = ((S.1 12) + 1) then (r_L_isSample_at351 x1 y1 S y 1) else (r_L_isSample_at351 x1 y1 S y 0))) else (r_L_isSample_at351 x1 y1 S y 0)) else (r_L_isSample_at351 x1 y1 S y 0)) else (if ((c_X4_sample_1 x1 y1 S y).1 16) = ((S.1 16) + 1) then (if ((c_X4_sample_1 x1 y1 S y).1 17) = (S.1 17) then (if v = 0 then (if ((c_X4_sample_1 x1 y1 S y).1 12) = 0 then (r_L_isSample_at351 x1 y1 S y 1) else (r_L_isSample_at351 x1 y1 S y 0)) else (if ((c_X4_sample_1 x1 y1 S y).1 12) = ((S.1 12) + 1) then (r_L_isSample_at351 x1 y1 S y 1) else (r_L_isSample_at351 x1 y1 S y 0))) else (r_L_isSample_at351 x1 y1 S y 0)) else (r_L_isSample_at351 x1 y1 S y 0))) else (r_L_isSample_at351 x1 y1 S y 0)) else (r_L_isSample_at351 x1 y1 S y 0))) else 0) else 0) else (if ((c_X4_sample_1 x1 y1 S y).1 13) = 0 then (if (r_X4_wouldTell x1 y1 S) = ((1000 * (((c_X4_sample_1 x1 y1 S y).1 14) + 100)) + (((c_X4_sample_1 x1 y1 S y).1 15) + 100)) then (if (S.1 9) < (r_L_greater (r_L_size (x1 - ((S.1 7) / 16))) (r_L_size (y1 - ((S.1 8) / 16)))) then (if (S.1 13) = 0 then (if v = 0 then (if 0 < ((c_X4_sample_1 x1 y1 S y).2.1 5) then (r_L_isSample_at568 x1 y1 S y 0) else (if ((S.1 9) + 8) < (r_L_greater (r_L_size (x1 - ((S.1 7) / 16))) (r_L_size (y1 - ((S.1 8) / 16)))) then (r_L_isSample_at568 x1 y1 S y 0) else (r_L_isSample_at568 x1 y1 S y 1))) else (if ((S.1 12) + 1) < ((c_X4_sample_1 x1 y1 S y).2.1 5) then (r_L_isSample_at568 x1 y1 S y 0) else (if ((S.1 9) + 8) < (r_L_greater (r_L_size (x1 - ((S.1 7) / 16))) (r_L_size (y1 - ((S.1 8) / 16)))) then (r_L_isSample_at568 x1 y1 S y 0) else (r_L_isSample_at568 x1 y1 S y 1)))) else (r_L_isSample_at568 x1 y1 S y 0)) else (if ((((c_X4_sample_1 x1 y1 S y).1 14) + 100) - 100) = 0 then (if ((((c_X4_sample_1 x1 y1 S y).1 15) + 100) - 100) = 0 then (if was = 0 then (if ((c_X4_sample_1 x1 y1 S y).1 16) = ((S.1 16) + 0) then (if ((c_X4_sample_1 x1 y1 S y).1 17) = (S.1 17) then (if v = 0 then (if ((c_X4_sample_1 x1 y1 S y).1 12) = 0 then (r_L_isSample_at351 x1 y1 S y 1) else (r_L_isSample_at351 x1 y1 S y 0)) else (if ((c_X4_sample_1 x1 y1 S y).1 12) = ((S.1 12) + 1) then (r_L_isSample_at351 x1 y1 S y 1) else (r_L_isSample_at351 x1 y1 S y 0))) else (r_L_isSample_at351 x1 y1 S y 0)) else (r_L_isSample_at351 x1 y1 S y 0)) else (if ((c_X4_sample_1 x1 y1 S y).1 16) = ((S.1 16) + 1) then (if ((c_X4_sample_1 x1 y1 S y).1 17) = (S.1 17) then (if v = 0 then (if ((c_X4_sample_1 x1 y1 S y).1 12) = 0 then (r_L_isSample_at351 x1 y1 S y 1) else (r_L_isSample_at351 x1 y1 S y 0)) else (if ((c_X4_sample_1 x1 y1 S y).1 12) = ((S.1 12) + 1) then (r_L_isSample_at351 x1 y1 S y 1) else (r_L_isSample_at351 x1 y1 S y 0))) else (r_L_isSample_at351 x1 y1 S y 0)) else (r_L_isSample_at351 x1 y1 S y 0))) else (r_L_isSample_at351 x1 y1 S y 0)) else (r_L_isSample_at351 x1 y1 S y 0))) else 0) else 0)) else 0) else 0
abbrev c_L_isSample_1_at171 (x1 : Int32) (y1 : Int32) (S : SS) (y : HS) (v : Int32) (was : Int32) : SS := (c_X4_sample_1 x1 y1 S y)
abbrev c_L_isSample_y_at171 (x1 : Int32) (y1 : Int32) (S : SS) (y : HS) (v : Int32) (was : Int32) : HS := (c_X4_sample_y x1 y1 S y)
def r_L_isSample_at126 (x1 : Int32) (y1 : Int32) (S : SS) (y : HS) (v : Int32) : Int32 := if 0 < (S.1 21) then (if (r_L_size (x1 - (latX S))) < 2 then (if (r_L_size (y1 - (latY S))) < 2 then (r_L_isSample_at171 x1 y1 S y 1 v) else (r_L_isSample_at171 x1 y1 S y 0 v)) else (r_L_isSample_at171 x1 y1 S y 0 v)) else (r_L_isSample_at171 x1 y1 S y 0 v)
abbrev c_L_isSample_1_at126 (x1 : Int32) (y1 : Int32) (S : SS) (y : HS) (v : Int32) : SS := (c_X4_sample_1 x1 y1 S y)
abbrev c_L_isSample_y_at126 (x1 : Int32) (y1 : Int32) (S : SS) (y : HS) (v : Int32) : HS := (c_X4_sample_y x1 y1 S y)
def r_L_isSample (x1 : Int32) (y1 : Int32) (S : SS) (y : HS) : Int32 := if ((S.1 14) + 100) = 100 then (if ((S.1 15) + 100) = 100 then (r_L_isSample_at126 x1 y1 S y 0) else (r_L_isSample_at126 x1 y1 S y 1)) else (r_L_isSample_at126 x1 y1 S y 1)
abbrev c_L_isSample_1 (x1 : Int32) (y1 : Int32) (S : SS) (y : HS) : SS := (c_X4_sample_1 x1 y1 S y)
abbrev c_L_isSample_y (x1 : Int32) (y1 : Int32) (S : SS) (y : HS) : HS := (c_X4_sample_y x1 y1 S y)
set_option maxHeartbeats 1000000 in
set_option maxRecDepth 100000 in
theorem s_L_isSample_828 (d : gD) (x : Nat → Nat) (a : Nat → Nat) (b : Nat → Nat) (c : Nat → Nat) (e : Nat → Nat) (x1 : Int32) (y1 : Int32) (p : Nat → Nat → Nat) (q : Nat → Nat → Nat) (S : SS) (T : SS) (h : Nat → Int32) (t : Nat → Int32) (y : HS) (ss : Nat → Option SS) (hy : y.1 < 6 ∧ y.2.1 ≤ 6) (hu : ¬ S.2.2.1 0 < 0) (hz : ¬ S.2.1 0 = 0) (v : Int32) (p1 : Nat → Nat → Nat) (hv : v = 0 ∨ v = 1) {X : gX} (E : gE d X RL cL_isSample 22 R_L_isSample) (RET : ∀ (pc_ : Nat) (lv_ : List (Nat × Value)) (v_ : Int32) (u_ : va_W), decode cL_isSample pc_ = .ok (.ireturn, 1) → narrow .boolean (.int v_) = .int v_ → v_ = r_L_isSample_at828 x1 y1 S y v → (∃ p_ : Nat → Nat → Nat, u_ = XW d (x, a, b, c, e) p_ q (c_L_isSample_1_at828 x1 y1 S y v) T h t (c_L_isSample_y_at828 x1 y1 S y v) ss) → G d X u_ R_L_isSample.cells R_L_isSample.slots pc_ lv_ [.int v_]) : G d X (XW d (x, a, b, c, e) p1 q (c_X4_sample_1 x1 y1 S y) T h t (c_X4_sample_y x1 y1 S y) ss) 6 57 828 [] [.int v] := by
  obtain ⟨S23_, hS23_⟩ : ∃ z, c_X4_sample_1 x1 y1 S y = z := ⟨_, rfl⟩
  rw [hS23_]
  obtain ⟨S24_, hS24_⟩ : ∃ z, c_X4_sample_y x1 y1 S y = z := ⟨_, rfl⟩
  rw [hS24_]
  subst hS24_
  subst hS23_
  exact RET 828 _ v _ dL_isSample_828 (nar_b hv) (by rw [r_L_isSample_at828]) ⟨p1, (by rw [c_L_isSample_1_at828, c_L_isSample_y_at828])⟩
set_option maxHeartbeats 1000000 in
set_option maxRecDepth 100000 in
theorem s_L_isSample_764 (d : gD) (x : Nat → Nat) (a : Nat → Nat) (b : Nat → Nat) (c : Nat → Nat) (e : Nat → Nat) (x1 : Int32) (y1 : Int32) (p : Nat → Nat → Nat) (q : Nat → Nat → Nat) (S : SS) (T : SS) (h : Nat → Int32) (t : Nat → Int32) (y : HS) (ss : Nat → Option SS) (hy : y.1 < 6 ∧ y.2.1 ≤ 6) (hu : ¬ S.2.2.1 0 < 0) (hz : ¬ S.2.1 0 = 0) (v : Int32) (p1 : Nat → Nat → Nat) (hv : v = 0 ∨ v = 1) {X : gX} (E : gE d X RL cL_isSample 22 R_L_isSample) (RET : ∀ (pc_ : Nat) (lv_ : List (Nat × Value)) (v_ : Int32) (u_ : va_W), decode cL_isSample pc_ = .ok (.ireturn, 1) → narrow .boolean (.int v_) = .int v_ → v_ = r_L_isSample_at764 x1 y1 S y v → (∃ p_ : Nat → Nat → Nat, u_ = XW d (x, a, b, c, e) p_ q (c_L_isSample_1_at764 x1 y1 S y v) T h t (c_L_isSample_y_at764 x1 y1 S y v) ss) → G d X u_ R_L_isSample.cells R_L_isSample.slots pc_ lv_ [.int v_]) : G d X (XW d (x, a, b, c, e) p1 q (c_X4_sample_1 x1 y1 S y) T h t (c_X4_sample_y x1 y1 S y) ss) 6 57 764 [(4, .int (x1 - ((S.1 7) / 16))), (5, .int (y1 - ((S.1 8) / 16))), (18, .int ((((c_X4_sample_1 x1 y1 S y).1 14) + 100) - 100)), (19, .int ((((c_X4_sample_1 x1 y1 S y).1 15) + 100) - 100))] [.int v] := by
  obtain ⟨S23_, hS23_⟩ : ∃ z, c_X4_sample_1 x1 y1 S y = z := ⟨_, rfl⟩
  rw [hS23_]
  obtain ⟨S24_, hS24_⟩ : ∃ z, c_X4_sample_y x1 y1 S y = z := ⟨_, rfl⟩
  rw [hS24_]
  refine g_istore E (lv' := [(21, .int v), (4, .int (x1 - ((S.1 7) / 16))), (5, .int (y1 - ((S.1 8) / 16))), (18, .int (((S23_.1 14) + 100) - 100)), (19, .int (((S23_.1 15) + 100) - 100))]) dL_isSample_764 (by decide) rfl ?_
  refine g_iload E 0 dL_isSample_766 rfl ?_
  refine g_ifeq E 827 dL_isSample_768 (by decide) (fun c_768 => ?_) (fun c_768 => ?_)
  · skip
    refine g_iconst E 0 dL_isSample_827 (by decide) ?_
    refine g_lvs (lv' := []) [] rfl ?_
    subst hS24_
    subst hS23_
    exact s_L_isSample_828 d x a b c e x1 y1 p q S T h t y ss hy hu hz 0 p1 (by first | exact Or.inl rfl | exact Or.inr rfl | assumption) E (fun pc_ lv_ v_ u_ h1_ h2_ h3_ h4_ => RET pc_ lv_ v_ u_ h1_ h2_ (h3_.trans (by rw [r_L_isSample_at764, if_pos c_768])) (h4_.imp (fun _ h5_ => h5_.trans (by rw [c_L_isSample_1_at764, c_L_isSample_y_at764]))))
  · skip
    refine g_iload E 1 dL_isSample_771 rfl ?_
    refine g_callSp E gc_L_size ml_L_18 (t_L_size d (x1 - ((S.1 7) / 16)) ) rfl rfl rfl (ok_le rfl) ⟨ok_le rfl, ok_le rfl, ok_le rfl, ok_le rfl⟩ rfl rfl dL_isSample_773 ?_
    refine g_nm (fun v75_ hv75_ => ?_)
    refine g_iload E 2 dL_isSample_776 rfl ?_
    refine g_callSp E gc_L_size ml_L_18 (t_L_size d (y1 - ((S.1 8) / 16)) ) rfl rfl rfl (ok_le rfl) ⟨ok_le rfl, ok_le rfl, ok_le rfl, ok_le rfl⟩ rfl rfl dL_isSample_778 ?_
    refine g_nm (fun v76_ hv76_ => ?_)
    refine g_icmplt E 797 dL_isSample_781 (by decide) (fun c_781 => ?_) (fun c_781 => ?_)
    · skip
      refine g_iload E 2 dL_isSample_797 rfl ?_
      refine g_callSp E gc_L_size ml_L_18 (t_L_size d (y1 - ((S.1 8) / 16)) ) rfl rfl rfl (ok_le rfl) ⟨ok_le rfl, ok_le rfl, ok_le rfl, ok_le rfl⟩ rfl rfl dL_isSample_799 ?_
      refine g_nm (fun v77_ hv77_ => ?_)
      refine g_iload E 1 dL_isSample_802 rfl ?_
      refine g_callSp E gc_L_size ml_L_18 (t_L_size d (x1 - ((S.1 7) / 16)) ) rfl rfl rfl (ok_le rfl) ⟨ok_le rfl, ok_le rfl, ok_le rfl, ok_le rfl⟩ rfl rfl dL_isSample_804 ?_
      refine g_nm (fun v78_ hv78_ => ?_)
      refine g_icmplt E 823 dL_isSample_807 (by decide) (fun c_807 => ?_) (fun c_807 => ?_)
      · skip
        refine g_iconst E 1 dL_isSample_823 (by decide) ?_
        refine g_goto E 828 dL_isSample_824 (by decide) ?_
        refine g_lvs (lv' := []) [] rfl ?_
        subst hv78_
        subst hv77_
        subst hv76_
        subst hv75_
        subst hS24_
        subst hS23_
        exact s_L_isSample_828 d x a b c e x1 y1 p q S T h t y ss hy hu hz 1 p1 (by first | exact Or.inl rfl | exact Or.inr rfl | assumption) E (fun pc_ lv_ v_ u_ h1_ h2_ h3_ h4_ => RET pc_ lv_ v_ u_ h1_ h2_ (h3_.trans (by rw [r_L_isSample_at764, if_neg c_768, if_pos c_781, if_pos c_807])) (h4_.imp (fun _ h5_ => h5_.trans (by rw [c_L_isSample_1_at764, c_L_isSample_y_at764]))))
      · skip
        refine g_iload E 4 dL_isSample_810 rfl ?_
        refine g_callSp E gc_L_size ml_L_18 (t_L_size d (((S23_.1 15) + 100) - 100) ) rfl rfl rfl (ok_le rfl) ⟨ok_le rfl, ok_le rfl, ok_le rfl, ok_le rfl⟩ rfl rfl dL_isSample_812 ?_
        refine g_nm (fun v79_ hv79_ => ?_)
        refine g_iload E 3 dL_isSample_815 rfl ?_
        refine g_callSp E gc_L_size ml_L_18 (t_L_size d (((S23_.1 14) + 100) - 100) ) rfl rfl rfl (ok_le rfl) ⟨ok_le rfl, ok_le rfl, ok_le rfl, ok_le rfl⟩ rfl rfl dL_isSample_817 ?_
        refine g_nm (fun v80_ hv80_ => ?_)
        refine g_icmplt E 827 dL_isSample_820 (by decide) (fun c_820 => ?_) (fun c_820 => ?_)
        · skip
          refine g_iconst E 0 dL_isSample_827 (by decide) ?_
          refine g_lvs (lv' := []) [] rfl ?_
          subst hv80_
          subst hv79_
          subst hv78_
          subst hv77_
          subst hv76_
          subst hv75_
          subst hS24_
          subst hS23_
          exact s_L_isSample_828 d x a b c e x1 y1 p q S T h t y ss hy hu hz 0 p1 (by first | exact Or.inl rfl | exact Or.inr rfl | assumption) E (fun pc_ lv_ v_ u_ h1_ h2_ h3_ h4_ => RET pc_ lv_ v_ u_ h1_ h2_ (h3_.trans (by rw [r_L_isSample_at764, if_neg c_768, if_pos c_781, if_neg c_807, if_pos c_820])) (h4_.imp (fun _ h5_ => h5_.trans (by rw [c_L_isSample_1_at764, c_L_isSample_y_at764]))))
        · skip
          refine g_iconst E 1 dL_isSample_823 (by decide) ?_
          refine g_goto E 828 dL_isSample_824 (by decide) ?_
          refine g_lvs (lv' := []) [] rfl ?_
          subst hv80_
          subst hv79_
          subst hv78_
          subst hv77_
          subst hv76_
          subst hv75_
          subst hS24_
          subst hS23_
          exact s_L_isSample_828 d x a b c e x1 y1 p q S T h t y ss hy hu hz 1 p1 (by first | exact Or.inl rfl | exact Or.inr rfl | assumption) E (fun pc_ lv_ v_ u_ h1_ h2_ h3_ h4_ => RET pc_ lv_ v_ u_ h1_ h2_ (h3_.trans (by rw [r_L_isSample_at764, if_neg c_768, if_pos c_781, if_neg c_807, if_neg c_820])) (h4_.imp (fun _ h5_ => h5_.trans (by rw [c_L_isSample_1_at764, c_L_isSample_y_at764]))))
    · skip
      refine g_iload E 3 dL_isSample_784 rfl ?_
      refine g_callSp E gc_L_size ml_L_18 (t_L_size d (((S23_.1 14) + 100) - 100) ) rfl rfl rfl (ok_le rfl) ⟨ok_le rfl, ok_le rfl, ok_le rfl, ok_le rfl⟩ rfl rfl dL_isSample_786 ?_
      refine g_nm (fun v81_ hv81_ => ?_)
      refine g_iload E 4 dL_isSample_789 rfl ?_
      refine g_callSp E gc_L_size ml_L_18 (t_L_size d (((S23_.1 15) + 100) - 100) ) rfl rfl rfl (ok_le rfl) ⟨ok_le rfl, ok_le rfl, ok_le rfl, ok_le rfl⟩ rfl rfl dL_isSample_791 ?_
      refine g_nm (fun v82_ hv82_ => ?_)
      refine g_icmplt E 827 dL_isSample_794 (by decide) (fun c_794 => ?_) (fun c_794 => ?_)
      · skip
        refine g_iconst E 0 dL_isSample_827 (by decide) ?_
        refine g_lvs (lv' := []) [] rfl ?_
        subst hv82_
        subst hv81_
        subst hv76_
        subst hv75_
        subst hS24_
        subst hS23_
        exact s_L_isSample_828 d x a b c e x1 y1 p q S T h t y ss hy hu hz 0 p1 (by first | exact Or.inl rfl | exact Or.inr rfl | assumption) E (fun pc_ lv_ v_ u_ h1_ h2_ h3_ h4_ => RET pc_ lv_ v_ u_ h1_ h2_ (h3_.trans (by rw [r_L_isSample_at764, if_neg c_768, if_neg c_781, if_pos c_794])) (h4_.imp (fun _ h5_ => h5_.trans (by rw [c_L_isSample_1_at764, c_L_isSample_y_at764]))))
      · skip
        refine g_iload E 2 dL_isSample_797 rfl ?_
        refine g_callSp E gc_L_size ml_L_18 (t_L_size d (y1 - ((S.1 8) / 16)) ) rfl rfl rfl (ok_le rfl) ⟨ok_le rfl, ok_le rfl, ok_le rfl, ok_le rfl⟩ rfl rfl dL_isSample_799 ?_
        refine g_nm (fun v83_ hv83_ => ?_)
        refine g_iload E 1 dL_isSample_802 rfl ?_
        refine g_callSp E gc_L_size ml_L_18 (t_L_size d (x1 - ((S.1 7) / 16)) ) rfl rfl rfl (ok_le rfl) ⟨ok_le rfl, ok_le rfl, ok_le rfl, ok_le rfl⟩ rfl rfl dL_isSample_804 ?_
        refine g_nm (fun v84_ hv84_ => ?_)
        refine g_icmplt E 823 dL_isSample_807 (by decide) (fun c_807 => ?_) (fun c_807 => ?_)
        · skip
          refine g_iconst E 1 dL_isSample_823 (by decide) ?_
          refine g_goto E 828 dL_isSample_824 (by decide) ?_
          refine g_lvs (lv' := []) [] rfl ?_
          subst hv84_
          subst hv83_
          subst hv82_
          subst hv81_
          subst hv76_
          subst hv75_
          subst hS24_
          subst hS23_
          exact s_L_isSample_828 d x a b c e x1 y1 p q S T h t y ss hy hu hz 1 p1 (by first | exact Or.inl rfl | exact Or.inr rfl | assumption) E (fun pc_ lv_ v_ u_ h1_ h2_ h3_ h4_ => RET pc_ lv_ v_ u_ h1_ h2_ (h3_.trans (by rw [r_L_isSample_at764, if_neg c_768, if_neg c_781, if_neg c_794, if_pos c_807])) (h4_.imp (fun _ h5_ => h5_.trans (by rw [c_L_isSample_1_at764, c_L_isSample_y_at764]))))
        · skip
          refine g_iload E 4 dL_isSample_810 rfl ?_
          refine g_callSp E gc_L_size ml_L_18 (t_L_size d (((S23_.1 15) + 100) - 100) ) rfl rfl rfl (ok_le rfl) ⟨ok_le rfl, ok_le rfl, ok_le rfl, ok_le rfl⟩ rfl rfl dL_isSample_812 ?_
          refine g_nm (fun v85_ hv85_ => ?_)
          refine g_iload E 3 dL_isSample_815 rfl ?_
          refine g_callSp E gc_L_size ml_L_18 (t_L_size d (((S23_.1 14) + 100) - 100) ) rfl rfl rfl (ok_le rfl) ⟨ok_le rfl, ok_le rfl, ok_le rfl, ok_le rfl⟩ rfl rfl dL_isSample_817 ?_
          refine g_nm (fun v86_ hv86_ => ?_)
          refine g_icmplt E 827 dL_isSample_820 (by decide) (fun c_820 => ?_) (fun c_820 => ?_)
          · skip
            refine g_iconst E 0 dL_isSample_827 (by decide) ?_
            refine g_lvs (lv' := []) [] rfl ?_
            subst hv86_
            subst hv85_
            subst hv84_
            subst hv83_
            subst hv82_
            subst hv81_
            subst hv76_
            subst hv75_
            subst hS24_
            subst hS23_
            exact s_L_isSample_828 d x a b c e x1 y1 p q S T h t y ss hy hu hz 0 p1 (by first | exact Or.inl rfl | exact Or.inr rfl | assumption) E (fun pc_ lv_ v_ u_ h1_ h2_ h3_ h4_ => RET pc_ lv_ v_ u_ h1_ h2_ (h3_.trans (by rw [r_L_isSample_at764, if_neg c_768, if_neg c_781, if_neg c_794, if_neg c_807, if_pos c_820])) (h4_.imp (fun _ h5_ => h5_.trans (by rw [c_L_isSample_1_at764, c_L_isSample_y_at764]))))
          · skip
            refine g_iconst E 1 dL_isSample_823 (by decide) ?_
            refine g_goto E 828 dL_isSample_824 (by decide) ?_
            refine g_lvs (lv' := []) [] rfl ?_
            subst hv86_
            subst hv85_
            subst hv84_
            subst hv83_
            subst hv82_
            subst hv81_
            subst hv76_
            subst hv75_
            subst hS24_
            subst hS23_
            exact s_L_isSample_828 d x a b c e x1 y1 p q S T h t y ss hy hu hz 1 p1 (by first | exact Or.inl rfl | exact Or.inr rfl | assumption) E (fun pc_ lv_ v_ u_ h1_ h2_ h3_ h4_ => RET pc_ lv_ v_ u_ h1_ h2_ (h3_.trans (by rw [r_L_isSample_at764, if_neg c_768, if_neg c_781, if_neg c_794, if_neg c_807, if_neg c_820])) (h4_.imp (fun _ h5_ => h5_.trans (by rw [c_L_isSample_1_at764, c_L_isSample_y_at764]))))
set_option maxHeartbeats 1000000 in
set_option maxRecDepth 100000 in
theorem s_L_isSample_687 (d : gD) (x : Nat → Nat) (a : Nat → Nat) (b : Nat → Nat) (c : Nat → Nat) (e : Nat → Nat) (x1 : Int32) (y1 : Int32) (p : Nat → Nat → Nat) (q : Nat → Nat → Nat) (S : SS) (T : SS) (h : Nat → Int32) (t : Nat → Int32) (y : HS) (ss : Nat → Option SS) (hy : y.1 < 6 ∧ y.2.1 ≤ 6) (hu : ¬ S.2.2.1 0 < 0) (hz : ¬ S.2.1 0 = 0) (v : Int32) (p1 : Nat → Nat → Nat) (hv : v = 0 ∨ v = 1) {X : gX} (E : gE d X RL cL_isSample 22 R_L_isSample) (RET : ∀ (pc_ : Nat) (lv_ : List (Nat × Value)) (v_ : Int32) (u_ : va_W), decode cL_isSample pc_ = .ok (.ireturn, 1) → narrow .boolean (.int v_) = .int v_ → v_ = r_L_isSample_at687 x1 y1 S y v → (∃ p_ : Nat → Nat → Nat, u_ = XW d (x, a, b, c, e) p_ q (c_L_isSample_1_at687 x1 y1 S y v) T h t (c_L_isSample_y_at687 x1 y1 S y v) ss) → G d X u_ R_L_isSample.cells R_L_isSample.slots pc_ lv_ [.int v_]) : G d X (XW d (x, a, b, c, e) p1 q (c_X4_sample_1 x1 y1 S y) T h t (c_X4_sample_y x1 y1 S y) ss) 6 57 687 [] [.int v] := by
  obtain ⟨S23_, hS23_⟩ : ∃ z, c_X4_sample_1 x1 y1 S y = z := ⟨_, rfl⟩
  rw [hS23_]
  obtain ⟨S24_, hS24_⟩ : ∃ z, c_X4_sample_y x1 y1 S y = z := ⟨_, rfl⟩
  rw [hS24_]
  subst hS24_
  subst hS23_
  exact RET 687 _ v _ dL_isSample_687 (nar_b hv) (by rw [r_L_isSample_at687]) ⟨p1, (by rw [c_L_isSample_1_at687, c_L_isSample_y_at687])⟩
set_option maxHeartbeats 1000000 in
set_option maxRecDepth 100000 in
theorem s_L_isSample_626 (d : gD) (x : Nat → Nat) (a : Nat → Nat) (b : Nat → Nat) (c : Nat → Nat) (e : Nat → Nat) (x1 : Int32) (y1 : Int32) (p : Nat → Nat → Nat) (q : Nat → Nat → Nat) (S : SS) (T : SS) (h : Nat → Int32) (t : Nat → Int32) (y : HS) (ss : Nat → Option SS) (hy : y.1 < 6 ∧ y.2.1 ≤ 6) (hu : ¬ S.2.2.1 0 < 0) (hz : ¬ S.2.1 0 = 0) (v : Int32) (dr : Int32) (p1 : Nat → Nat → Nat) (hv : v = 0 ∨ v = 1) {X : gX} (E : gE d X RL cL_isSample 22 R_L_isSample) (RET : ∀ (pc_ : Nat) (lv_ : List (Nat × Value)) (v_ : Int32) (u_ : va_W), decode cL_isSample pc_ = .ok (.ireturn, 1) → narrow .boolean (.int v_) = .int v_ → v_ = r_L_isSample_at626 x1 y1 S y v dr → (∃ p_ : Nat → Nat → Nat, u_ = XW d (x, a, b, c, e) p_ q (c_L_isSample_1_at626 x1 y1 S y v dr) T h t (c_L_isSample_y_at626 x1 y1 S y v dr) ss) → G d X u_ R_L_isSample.cells R_L_isSample.slots pc_ lv_ [.int v_]) : G d X (XW d (x, a, b, c, e) p1 q (c_X4_sample_1 x1 y1 S y) T h t (c_X4_sample_y x1 y1 S y) ss) 6 57 626 [(0, .ref (x 0)), (1, .int x1), (2, .int y1), (3, .int (S.1 9)), (4, .int (x1 - ((S.1 7) / 16))), (5, .int (y1 - ((S.1 8) / 16))), (12, .int (S.1 7)), (13, .int (S.1 8)), (18, .int ((((c_X4_sample_1 x1 y1 S y).1 14) + 100) - 100)), (19, .int ((((c_X4_sample_1 x1 y1 S y).1 15) + 100) - 100)), (20, .int dr)] [.int v] := by
  obtain ⟨S23_, hS23_⟩ : ∃ z, c_X4_sample_1 x1 y1 S y = z := ⟨_, rfl⟩
  rw [hS23_]
  obtain ⟨S24_, hS24_⟩ : ∃ z, c_X4_sample_y x1 y1 S y = z := ⟨_, rfl⟩
  rw [hS24_]
  refine g_istore E (lv' := [(21, .int v), (0, .ref (x 0)), (1, .int x1), (2, .int y1), (3, .int (S.1 9)), (4, .int (x1 - ((S.1 7) / 16))), (5, .int (y1 - ((S.1 8) / 16))), (12, .int (S.1 7)), (13, .int (S.1 8)), (18, .int (((S23_.1 14) + 100) - 100)), (19, .int (((S23_.1 15) + 100) - 100)), (20, .int dr)]) dL_isSample_626 (by decide) rfl ?_
  refine g_iload E 11 dL_isSample_628 rfl ?_
  refine g_ifeq E 688 dL_isSample_630 (by decide) (fun c_630 => ?_) (fun c_630 => ?_)
  · skip
    refine g_iload E 0 dL_isSample_688 rfl ?_
    refine g_ifeq E 763 dL_isSample_690 (by decide) (fun c_690 => ?_) (fun c_690 => ?_)
    · skip
      refine g_iconst E 0 dL_isSample_763 (by decide) ?_
      refine g_lvs (lv' := [(4, .int (x1 - ((S.1 7) / 16))), (5, .int (y1 - ((S.1 8) / 16))), (18, .int (((S23_.1 14) + 100) - 100)), (19, .int (((S23_.1 15) + 100) - 100))]) [5, 6, 9, 10] rfl ?_
      subst hS24_
      subst hS23_
      exact s_L_isSample_764 d x a b c e x1 y1 p q S T h t y ss hy hu hz 0 p1 (by first | exact Or.inl rfl | exact Or.inr rfl | assumption) E (fun pc_ lv_ v_ u_ h1_ h2_ h3_ h4_ => RET pc_ lv_ v_ u_ h1_ h2_ (h3_.trans (by rw [r_L_isSample_at626, if_pos c_630, if_pos c_690])) (h4_.imp (fun _ h5_ => h5_.trans (by rw [c_L_isSample_1_at626, c_L_isSample_y_at626]))))
    · skip
      refine g_aload_n E 1 dL_isSample_693 rfl rfl ?_
      refine g_iconst E 0 dL_isSample_694 (by decide) ?_
      refine g_iconst E 0 dL_isSample_695 (by decide) ?_
      refine g_callVi0 E gc_X4_of ml_L_14 (t_X4_of d x a b c e 0 0 p1 q S23_ T h t S24_ ss ) rfl rfl (ci := 4) 0 rfl rfl rfl rfl (ok_le rfl) ⟨ok_le rfl, ok_le rfl, ok_le rfl, ok_le rfl⟩ rfl rfl dL_isSample_696 ?_
      refine g_top (b := S23_.1 7) (of_0_0 _) ?_
      refine g_iload E 7 dL_isSample_699 rfl ?_
      refine g_icmpne E 763 dL_isSample_701 (by decide) (fun c_701 => ?_) (fun c_701 => ?_)
      · skip
        refine g_iconst E 0 dL_isSample_763 (by decide) ?_
        refine g_lvs (lv' := [(4, .int (x1 - ((S.1 7) / 16))), (5, .int (y1 - ((S.1 8) / 16))), (18, .int (((S23_.1 14) + 100) - 100)), (19, .int (((S23_.1 15) + 100) - 100))]) [5, 6, 9, 10] rfl ?_
        subst hS24_
        subst hS23_
        exact s_L_isSample_764 d x a b c e x1 y1 p q S T h t y ss hy hu hz 0 p1 (by first | exact Or.inl rfl | exact Or.inr rfl | assumption) E (fun pc_ lv_ v_ u_ h1_ h2_ h3_ h4_ => RET pc_ lv_ v_ u_ h1_ h2_ (h3_.trans (by rw [r_L_isSample_at626, if_pos c_630, if_neg c_690, if_neg c_701])) (h4_.imp (fun _ h5_ => h5_.trans (by rw [c_L_isSample_1_at626, c_L_isSample_y_at626]))))
      · skip
        refine g_aload_n E 1 dL_isSample_704 rfl rfl ?_
        refine g_iconst E 1 dL_isSample_705 (by decide) ?_
        refine g_iconst E 0 dL_isSample_706 (by decide) ?_
        refine g_callVi0 E gc_X4_of ml_L_14 (t_X4_of d x a b c e 1 0 p1 q S23_ T h t S24_ ss ) rfl rfl (ci := 4) 0 rfl rfl rfl rfl (ok_le rfl) ⟨ok_le rfl, ok_le rfl, ok_le rfl, ok_le rfl⟩ rfl rfl dL_isSample_707 ?_
        refine g_top (b := S23_.1 8) (of_1_0 _) ?_
        refine g_iload E 8 dL_isSample_710 rfl ?_
        refine g_icmpne E 763 dL_isSample_712 (by decide) (fun c_712 => ?_) (fun c_712 => ?_)
        · skip
          refine g_iconst E 0 dL_isSample_763 (by decide) ?_
          refine g_lvs (lv' := [(4, .int (x1 - ((S.1 7) / 16))), (5, .int (y1 - ((S.1 8) / 16))), (18, .int (((S23_.1 14) + 100) - 100)), (19, .int (((S23_.1 15) + 100) - 100))]) [5, 6, 9, 10] rfl ?_
          subst hS24_
          subst hS23_
          exact s_L_isSample_764 d x a b c e x1 y1 p q S T h t y ss hy hu hz 0 p1 (by first | exact Or.inl rfl | exact Or.inr rfl | assumption) E (fun pc_ lv_ v_ u_ h1_ h2_ h3_ h4_ => RET pc_ lv_ v_ u_ h1_ h2_ (h3_.trans (by rw [r_L_isSample_at626, if_pos c_630, if_neg c_690, if_pos c_701, if_neg c_712])) (h4_.imp (fun _ h5_ => h5_.trans (by rw [c_L_isSample_1_at626, c_L_isSample_y_at626]))))
        · skip
          refine g_iload E 9 dL_isSample_715 rfl ?_
          refine g_iload E 5 dL_isSample_717 rfl ?_
          refine g_imul E dL_isSample_719 ?_
          refine g_iflt E 763 dL_isSample_720 (by decide) (fun c_720 => ?_) (fun c_720 => ?_)
          · skip
            refine g_iconst E 0 dL_isSample_763 (by decide) ?_
            refine g_lvs (lv' := [(4, .int (x1 - ((S.1 7) / 16))), (5, .int (y1 - ((S.1 8) / 16))), (18, .int (((S23_.1 14) + 100) - 100)), (19, .int (((S23_.1 15) + 100) - 100))]) [5, 6, 9, 10] rfl ?_
            subst hS24_
            subst hS23_
            exact s_L_isSample_764 d x a b c e x1 y1 p q S T h t y ss hy hu hz 0 p1 (by first | exact Or.inl rfl | exact Or.inr rfl | assumption) E (fun pc_ lv_ v_ u_ h1_ h2_ h3_ h4_ => RET pc_ lv_ v_ u_ h1_ h2_ (h3_.trans (by rw [r_L_isSample_at626, if_pos c_630, if_neg c_690, if_pos c_701, if_pos c_712, if_pos c_720])) (h4_.imp (fun _ h5_ => h5_.trans (by rw [c_L_isSample_1_at626, c_L_isSample_y_at626]))))
          · skip
            refine g_iload E 10 dL_isSample_723 rfl ?_
            refine g_iload E 6 dL_isSample_725 rfl ?_
            refine g_imul E dL_isSample_727 ?_
            refine g_iflt E 763 dL_isSample_728 (by decide) (fun c_728 => ?_) (fun c_728 => ?_)
            · skip
              refine g_iconst E 0 dL_isSample_763 (by decide) ?_
              refine g_lvs (lv' := [(4, .int (x1 - ((S.1 7) / 16))), (5, .int (y1 - ((S.1 8) / 16))), (18, .int (((S23_.1 14) + 100) - 100)), (19, .int (((S23_.1 15) + 100) - 100))]) [5, 6, 9, 10] rfl ?_
              subst hS24_
              subst hS23_
              exact s_L_isSample_764 d x a b c e x1 y1 p q S T h t y ss hy hu hz 0 p1 (by first | exact Or.inl rfl | exact Or.inr rfl | assumption) E (fun pc_ lv_ v_ u_ h1_ h2_ h3_ h4_ => RET pc_ lv_ v_ u_ h1_ h2_ (h3_.trans (by rw [r_L_isSample_at626, if_pos c_630, if_neg c_690, if_pos c_701, if_pos c_712, if_neg c_720, if_pos c_728])) (h4_.imp (fun _ h5_ => h5_.trans (by rw [c_L_isSample_1_at626, c_L_isSample_y_at626]))))
            · skip
              refine g_iload E 5 dL_isSample_731 rfl ?_
              refine g_callSp E gc_L_size ml_L_18 (t_L_size d (x1 - ((S.1 7) / 16)) ) rfl rfl rfl (ok_le rfl) ⟨ok_le rfl, ok_le rfl, ok_le rfl, ok_le rfl⟩ rfl rfl dL_isSample_733 ?_
              refine g_nm (fun v69_ hv69_ => ?_)
              refine g_iload_n E 4 dL_isSample_736 rfl rfl ?_
              refine g_icmpgt E 745 dL_isSample_737 (by decide) (fun c_737 => ?_) (fun c_737 => ?_)
              · skip
                refine g_iload E 6 dL_isSample_745 rfl ?_
                refine g_callSp E gc_L_size ml_L_18 (t_L_size d (y1 - ((S.1 8) / 16)) ) rfl rfl rfl (ok_le rfl) ⟨ok_le rfl, ok_le rfl, ok_le rfl, ok_le rfl⟩ rfl rfl dL_isSample_747 ?_
                refine g_nm (fun v70_ hv70_ => ?_)
                refine g_iload_n E 4 dL_isSample_750 rfl rfl ?_
                refine g_icmpgt E 759 dL_isSample_751 (by decide) (fun c_751 => ?_) (fun c_751 => ?_)
                · skip
                  refine g_iconst E 1 dL_isSample_759 (by decide) ?_
                  refine g_goto E 764 dL_isSample_760 (by decide) ?_
                  refine g_lvs (lv' := [(4, .int (x1 - ((S.1 7) / 16))), (5, .int (y1 - ((S.1 8) / 16))), (18, .int (((S23_.1 14) + 100) - 100)), (19, .int (((S23_.1 15) + 100) - 100))]) [5, 6, 9, 10] rfl ?_
                  subst hv70_
                  subst hv69_
                  subst hS24_
                  subst hS23_
                  exact s_L_isSample_764 d x a b c e x1 y1 p q S T h t y ss hy hu hz 1 p1 (by first | exact Or.inl rfl | exact Or.inr rfl | assumption) E (fun pc_ lv_ v_ u_ h1_ h2_ h3_ h4_ => RET pc_ lv_ v_ u_ h1_ h2_ (h3_.trans (by rw [r_L_isSample_at626, if_pos c_630, if_neg c_690, if_pos c_701, if_pos c_712, if_neg c_720, if_neg c_728, if_pos c_737, if_pos c_751])) (h4_.imp (fun _ h5_ => h5_.trans (by rw [c_L_isSample_1_at626, c_L_isSample_y_at626]))))
                · skip
                  refine g_iload E 10 dL_isSample_754 rfl ?_
                  refine g_ifne E 763 dL_isSample_756 (by decide) (fun c_756 => ?_) (fun c_756 => ?_)
                  · skip
                    refine g_iconst E 0 dL_isSample_763 (by decide) ?_
                    refine g_lvs (lv' := [(4, .int (x1 - ((S.1 7) / 16))), (5, .int (y1 - ((S.1 8) / 16))), (18, .int (((S23_.1 14) + 100) - 100)), (19, .int (((S23_.1 15) + 100) - 100))]) [5, 6, 9, 10] rfl ?_
                    subst hv70_
                    subst hv69_
                    subst hS24_
                    subst hS23_
                    exact s_L_isSample_764 d x a b c e x1 y1 p q S T h t y ss hy hu hz 0 p1 (by first | exact Or.inl rfl | exact Or.inr rfl | assumption) E (fun pc_ lv_ v_ u_ h1_ h2_ h3_ h4_ => RET pc_ lv_ v_ u_ h1_ h2_ (h3_.trans (by rw [r_L_isSample_at626, if_pos c_630, if_neg c_690, if_pos c_701, if_pos c_712, if_neg c_720, if_neg c_728, if_pos c_737, if_neg c_751, if_neg c_756])) (h4_.imp (fun _ h5_ => h5_.trans (by rw [c_L_isSample_1_at626, c_L_isSample_y_at626]))))
                  · skip
                    refine g_iconst E 1 dL_isSample_759 (by decide) ?_
                    refine g_goto E 764 dL_isSample_760 (by decide) ?_
                    refine g_lvs (lv' := [(4, .int (x1 - ((S.1 7) / 16))), (5, .int (y1 - ((S.1 8) / 16))), (18, .int (((S23_.1 14) + 100) - 100)), (19, .int (((S23_.1 15) + 100) - 100))]) [5, 6, 9, 10] rfl ?_
                    subst hv70_
                    subst hv69_
                    subst hS24_
                    subst hS23_
                    exact s_L_isSample_764 d x a b c e x1 y1 p q S T h t y ss hy hu hz 1 p1 (by first | exact Or.inl rfl | exact Or.inr rfl | assumption) E (fun pc_ lv_ v_ u_ h1_ h2_ h3_ h4_ => RET pc_ lv_ v_ u_ h1_ h2_ (h3_.trans (by rw [r_L_isSample_at626, if_pos c_630, if_neg c_690, if_pos c_701, if_pos c_712, if_neg c_720, if_neg c_728, if_pos c_737, if_neg c_751, if_pos c_756])) (h4_.imp (fun _ h5_ => h5_.trans (by rw [c_L_isSample_1_at626, c_L_isSample_y_at626]))))
              · skip
                refine g_iload E 9 dL_isSample_740 rfl ?_
                refine g_ifne E 763 dL_isSample_742 (by decide) (fun c_742 => ?_) (fun c_742 => ?_)
                · skip
                  refine g_iconst E 0 dL_isSample_763 (by decide) ?_
                  refine g_lvs (lv' := [(4, .int (x1 - ((S.1 7) / 16))), (5, .int (y1 - ((S.1 8) / 16))), (18, .int (((S23_.1 14) + 100) - 100)), (19, .int (((S23_.1 15) + 100) - 100))]) [5, 6, 9, 10] rfl ?_
                  subst hv69_
                  subst hS24_
                  subst hS23_
                  exact s_L_isSample_764 d x a b c e x1 y1 p q S T h t y ss hy hu hz 0 p1 (by first | exact Or.inl rfl | exact Or.inr rfl | assumption) E (fun pc_ lv_ v_ u_ h1_ h2_ h3_ h4_ => RET pc_ lv_ v_ u_ h1_ h2_ (h3_.trans (by rw [r_L_isSample_at626, if_pos c_630, if_neg c_690, if_pos c_701, if_pos c_712, if_neg c_720, if_neg c_728, if_neg c_737, if_neg c_742])) (h4_.imp (fun _ h5_ => h5_.trans (by rw [c_L_isSample_1_at626, c_L_isSample_y_at626]))))
                · skip
                  refine g_iload E 6 dL_isSample_745 rfl ?_
                  refine g_callSp E gc_L_size ml_L_18 (t_L_size d (y1 - ((S.1 8) / 16)) ) rfl rfl rfl (ok_le rfl) ⟨ok_le rfl, ok_le rfl, ok_le rfl, ok_le rfl⟩ rfl rfl dL_isSample_747 ?_
                  refine g_nm (fun v71_ hv71_ => ?_)
                  refine g_iload_n E 4 dL_isSample_750 rfl rfl ?_
                  refine g_icmpgt E 759 dL_isSample_751 (by decide) (fun c_751 => ?_) (fun c_751 => ?_)
                  · skip
                    refine g_iconst E 1 dL_isSample_759 (by decide) ?_
                    refine g_goto E 764 dL_isSample_760 (by decide) ?_
                    refine g_lvs (lv' := [(4, .int (x1 - ((S.1 7) / 16))), (5, .int (y1 - ((S.1 8) / 16))), (18, .int (((S23_.1 14) + 100) - 100)), (19, .int (((S23_.1 15) + 100) - 100))]) [5, 6, 9, 10] rfl ?_
                    subst hv71_
                    subst hv69_
                    subst hS24_
                    subst hS23_
                    exact s_L_isSample_764 d x a b c e x1 y1 p q S T h t y ss hy hu hz 1 p1 (by first | exact Or.inl rfl | exact Or.inr rfl | assumption) E (fun pc_ lv_ v_ u_ h1_ h2_ h3_ h4_ => RET pc_ lv_ v_ u_ h1_ h2_ (h3_.trans (by rw [r_L_isSample_at626, if_pos c_630, if_neg c_690, if_pos c_701, if_pos c_712, if_neg c_720, if_neg c_728, if_neg c_737, if_pos c_742, if_pos c_751])) (h4_.imp (fun _ h5_ => h5_.trans (by rw [c_L_isSample_1_at626, c_L_isSample_y_at626]))))
                  · skip
                    refine g_iload E 10 dL_isSample_754 rfl ?_
                    refine g_ifne E 763 dL_isSample_756 (by decide) (fun c_756 => ?_) (fun c_756 => ?_)
                    · skip
                      refine g_iconst E 0 dL_isSample_763 (by decide) ?_
                      refine g_lvs (lv' := [(4, .int (x1 - ((S.1 7) / 16))), (5, .int (y1 - ((S.1 8) / 16))), (18, .int (((S23_.1 14) + 100) - 100)), (19, .int (((S23_.1 15) + 100) - 100))]) [5, 6, 9, 10] rfl ?_
                      subst hv71_
                      subst hv69_
                      subst hS24_
                      subst hS23_
                      exact s_L_isSample_764 d x a b c e x1 y1 p q S T h t y ss hy hu hz 0 p1 (by first | exact Or.inl rfl | exact Or.inr rfl | assumption) E (fun pc_ lv_ v_ u_ h1_ h2_ h3_ h4_ => RET pc_ lv_ v_ u_ h1_ h2_ (h3_.trans (by rw [r_L_isSample_at626, if_pos c_630, if_neg c_690, if_pos c_701, if_pos c_712, if_neg c_720, if_neg c_728, if_neg c_737, if_pos c_742, if_neg c_751, if_neg c_756])) (h4_.imp (fun _ h5_ => h5_.trans (by rw [c_L_isSample_1_at626, c_L_isSample_y_at626]))))
                    · skip
                      refine g_iconst E 1 dL_isSample_759 (by decide) ?_
                      refine g_goto E 764 dL_isSample_760 (by decide) ?_
                      refine g_lvs (lv' := [(4, .int (x1 - ((S.1 7) / 16))), (5, .int (y1 - ((S.1 8) / 16))), (18, .int (((S23_.1 14) + 100) - 100)), (19, .int (((S23_.1 15) + 100) - 100))]) [5, 6, 9, 10] rfl ?_
                      subst hv71_
                      subst hv69_
                      subst hS24_
                      subst hS23_
                      exact s_L_isSample_764 d x a b c e x1 y1 p q S T h t y ss hy hu hz 1 p1 (by first | exact Or.inl rfl | exact Or.inr rfl | assumption) E (fun pc_ lv_ v_ u_ h1_ h2_ h3_ h4_ => RET pc_ lv_ v_ u_ h1_ h2_ (h3_.trans (by rw [r_L_isSample_at626, if_pos c_630, if_neg c_690, if_pos c_701, if_pos c_712, if_neg c_720, if_neg c_728, if_neg c_737, if_pos c_742, if_neg c_751, if_pos c_756])) (h4_.imp (fun _ h5_ => h5_.trans (by rw [c_L_isSample_1_at626, c_L_isSample_y_at626]))))
  · skip
    refine g_iload E 0 dL_isSample_633 rfl ?_
    refine g_ifeq E 686 dL_isSample_635 (by decide) (fun c_635 => ?_) (fun c_635 => ?_)
    · skip
      refine g_iconst E 0 dL_isSample_686 (by decide) ?_
      refine g_lvs (lv' := []) [] rfl ?_
      subst hS24_
      subst hS23_
      exact s_L_isSample_687 d x a b c e x1 y1 p q S T h t y ss hy hu hz 0 p1 (by first | exact Or.inl rfl | exact Or.inr rfl | assumption) E (fun pc_ lv_ v_ u_ h1_ h2_ h3_ h4_ => RET pc_ lv_ v_ u_ h1_ h2_ (h3_.trans (by rw [r_L_isSample_at626, if_neg c_630, if_pos c_635])) (h4_.imp (fun _ h5_ => h5_.trans (by rw [c_L_isSample_1_at626, c_L_isSample_y_at626]))))
    · skip
      refine g_iload E 9 dL_isSample_638 rfl ?_
      refine g_ifne E 686 dL_isSample_640 (by decide) (fun c_640 => ?_) (fun c_640 => ?_)
      · skip
        refine g_iconst E 0 dL_isSample_686 (by decide) ?_
        refine g_lvs (lv' := []) [] rfl ?_
        subst hS24_
        subst hS23_
        exact s_L_isSample_687 d x a b c e x1 y1 p q S T h t y ss hy hu hz 0 p1 (by first | exact Or.inl rfl | exact Or.inr rfl | assumption) E (fun pc_ lv_ v_ u_ h1_ h2_ h3_ h4_ => RET pc_ lv_ v_ u_ h1_ h2_ (h3_.trans (by rw [r_L_isSample_at626, if_neg c_630, if_neg c_635, if_neg c_640])) (h4_.imp (fun _ h5_ => h5_.trans (by rw [c_L_isSample_1_at626, c_L_isSample_y_at626]))))
      · skip
        refine g_iload E 10 dL_isSample_643 rfl ?_
        refine g_ifne E 686 dL_isSample_645 (by decide) (fun c_645 => ?_) (fun c_645 => ?_)
        · skip
          refine g_iconst E 0 dL_isSample_686 (by decide) ?_
          refine g_lvs (lv' := []) [] rfl ?_
          subst hS24_
          subst hS23_
          exact s_L_isSample_687 d x a b c e x1 y1 p q S T h t y ss hy hu hz 0 p1 (by first | exact Or.inl rfl | exact Or.inr rfl | assumption) E (fun pc_ lv_ v_ u_ h1_ h2_ h3_ h4_ => RET pc_ lv_ v_ u_ h1_ h2_ (h3_.trans (by rw [r_L_isSample_at626, if_neg c_630, if_neg c_635, if_pos c_640, if_neg c_645])) (h4_.imp (fun _ h5_ => h5_.trans (by rw [c_L_isSample_1_at626, c_L_isSample_y_at626]))))
        · skip
          refine g_aload_n E 1 dL_isSample_648 rfl rfl ?_
          refine g_iconst E 0 dL_isSample_649 (by decide) ?_
          refine g_iconst E 0 dL_isSample_650 (by decide) ?_
          refine g_callVi0 E gc_X4_of ml_L_14 (t_X4_of d x a b c e 0 0 p1 q S23_ T h t S24_ ss ) rfl rfl (ci := 4) 0 rfl rfl rfl rfl (ok_le rfl) ⟨ok_le rfl, ok_le rfl, ok_le rfl, ok_le rfl⟩ rfl rfl dL_isSample_651 ?_
          refine g_top (b := S23_.1 7) (of_0_0 _) ?_
          refine g_bipush E 16 dL_isSample_654 (by decide) ?_
          refine g_iload_n E 2 dL_isSample_656 rfl rfl ?_
          refine g_imul E dL_isSample_657 ?_
          refine g_icmpne E 686 dL_isSample_658 (by decide) (fun c_658 => ?_) (fun c_658 => ?_)
          · skip
            refine g_iconst E 0 dL_isSample_686 (by decide) ?_
            refine g_lvs (lv' := []) [] rfl ?_
            subst hS24_
            subst hS23_
            exact s_L_isSample_687 d x a b c e x1 y1 p q S T h t y ss hy hu hz 0 p1 (by first | exact Or.inl rfl | exact Or.inr rfl | assumption) E (fun pc_ lv_ v_ u_ h1_ h2_ h3_ h4_ => RET pc_ lv_ v_ u_ h1_ h2_ (h3_.trans (by rw [r_L_isSample_at626, if_neg c_630, if_neg c_635, if_pos c_640, if_pos c_645, if_neg c_658])) (h4_.imp (fun _ h5_ => h5_.trans (by rw [c_L_isSample_1_at626, c_L_isSample_y_at626]))))
          · skip
            refine g_aload_n E 1 dL_isSample_661 rfl rfl ?_
            refine g_iconst E 1 dL_isSample_662 (by decide) ?_
            refine g_iconst E 0 dL_isSample_663 (by decide) ?_
            refine g_callVi0 E gc_X4_of ml_L_14 (t_X4_of d x a b c e 1 0 p1 q S23_ T h t S24_ ss ) rfl rfl (ci := 4) 0 rfl rfl rfl rfl (ok_le rfl) ⟨ok_le rfl, ok_le rfl, ok_le rfl, ok_le rfl⟩ rfl rfl dL_isSample_664 ?_
            refine g_top (b := S23_.1 8) (of_1_0 _) ?_
            refine g_bipush E 16 dL_isSample_667 (by decide) ?_
            refine g_iload_n E 3 dL_isSample_669 rfl rfl ?_
            refine g_imul E dL_isSample_670 ?_
            refine g_icmpne E 686 dL_isSample_671 (by decide) (fun c_671 => ?_) (fun c_671 => ?_)
            · skip
              refine g_iconst E 0 dL_isSample_686 (by decide) ?_
              refine g_lvs (lv' := []) [] rfl ?_
              subst hS24_
              subst hS23_
              exact s_L_isSample_687 d x a b c e x1 y1 p q S T h t y ss hy hu hz 0 p1 (by first | exact Or.inl rfl | exact Or.inr rfl | assumption) E (fun pc_ lv_ v_ u_ h1_ h2_ h3_ h4_ => RET pc_ lv_ v_ u_ h1_ h2_ (h3_.trans (by rw [r_L_isSample_at626, if_neg c_630, if_neg c_635, if_pos c_640, if_pos c_645, if_pos c_658, if_neg c_671])) (h4_.imp (fun _ h5_ => h5_.trans (by rw [c_L_isSample_1_at626, c_L_isSample_y_at626]))))
            · skip
              refine g_aload_n E 1 dL_isSample_674 rfl rfl ?_
              refine g_iconst E 2 dL_isSample_675 (by decide) ?_
              refine g_callVi0 E gc_X4_count ml_L_8 (t_X4_count d x a b c e 2 p1 q S23_ T h t S24_ ss ) rfl rfl (ci := 4) 0 rfl rfl rfl rfl (ok_le rfl) ⟨ok_le rfl, ok_le rfl, ok_le rfl, ok_le rfl⟩ rfl rfl dL_isSample_676 ?_
              refine g_top (b := S23_.1 12) (count_2 _ _ _) ?_
              refine g_ifne E 686 dL_isSample_679 (by decide) (fun c_679 => ?_) (fun c_679 => ?_)
              · skip
                refine g_iconst E 0 dL_isSample_686 (by decide) ?_
                refine g_lvs (lv' := []) [] rfl ?_
                subst hS24_
                subst hS23_
                exact s_L_isSample_687 d x a b c e x1 y1 p q S T h t y ss hy hu hz 0 p1 (by first | exact Or.inl rfl | exact Or.inr rfl | assumption) E (fun pc_ lv_ v_ u_ h1_ h2_ h3_ h4_ => RET pc_ lv_ v_ u_ h1_ h2_ (h3_.trans (by rw [r_L_isSample_at626, if_neg c_630, if_neg c_635, if_pos c_640, if_pos c_645, if_pos c_658, if_pos c_671, if_neg c_679])) (h4_.imp (fun _ h5_ => h5_.trans (by rw [c_L_isSample_1_at626, c_L_isSample_y_at626]))))
              · skip
                refine g_iconst E 1 dL_isSample_682 (by decide) ?_
                refine g_goto E 687 dL_isSample_683 (by decide) ?_
                refine g_lvs (lv' := []) [] rfl ?_
                subst hS24_
                subst hS23_
                exact s_L_isSample_687 d x a b c e x1 y1 p q S T h t y ss hy hu hz 1 p1 (by first | exact Or.inl rfl | exact Or.inr rfl | assumption) E (fun pc_ lv_ v_ u_ h1_ h2_ h3_ h4_ => RET pc_ lv_ v_ u_ h1_ h2_ (h3_.trans (by rw [r_L_isSample_at626, if_neg c_630, if_neg c_635, if_pos c_640, if_pos c_645, if_pos c_658, if_pos c_671, if_pos c_679])) (h4_.imp (fun _ h5_ => h5_.trans (by rw [c_L_isSample_1_at626, c_L_isSample_y_at626]))))
set_option maxHeartbeats 1000000 in
set_option maxRecDepth 100000 in
theorem s_L_isSample_568 (d : gD) (x : Nat → Nat) (a : Nat → Nat) (b : Nat → Nat) (c : Nat → Nat) (e : Nat → Nat) (x1 : Int32) (y1 : Int32) (p : Nat → Nat → Nat) (q : Nat → Nat → Nat) (S : SS) (T : SS) (h : Nat → Int32) (t : Nat → Int32) (y : HS) (ss : Nat → Option SS) (hy : y.1 < 6 ∧ y.2.1 ≤ 6) (hu : ¬ S.2.2.1 0 < 0) (hz : ¬ S.2.1 0 = 0) (v : Int32) (p1 : Nat → Nat → Nat) (hv : v = 0 ∨ v = 1) {X : gX} (E : gE d X RL cL_isSample 22 R_L_isSample) (RET : ∀ (pc_ : Nat) (lv_ : List (Nat × Value)) (v_ : Int32) (u_ : va_W), decode cL_isSample pc_ = .ok (.ireturn, 1) → narrow .boolean (.int v_) = .int v_ → v_ = r_L_isSample_at568 x1 y1 S y v → (∃ p_ : Nat → Nat → Nat, u_ = XW d (x, a, b, c, e) p_ q (c_L_isSample_1_at568 x1 y1 S y v) T h t (c_L_isSample_y_at568 x1 y1 S y v) ss) → G d X u_ R_L_isSample.cells R_L_isSample.slots pc_ lv_ [.int v_]) : G d X (XW d (x, a, b, c, e) p1 q (c_X4_sample_1 x1 y1 S y) T h t (c_X4_sample_y x1 y1 S y) ss) 6 57 568 [(0, .ref (x 0)), (1, .int x1), (2, .int y1), (3, .int (S.1 9)), (4, .int (x1 - ((S.1 7) / 16))), (5, .int (y1 - ((S.1 8) / 16))), (9, .int (S.1 16)), (10, .int (S.1 17)), (11, .int (S.1 20)), (12, .int (S.1 7)), (13, .int (S.1 8)), (18, .int ((((c_X4_sample_1 x1 y1 S y).1 14) + 100) - 100)), (19, .int ((((c_X4_sample_1 x1 y1 S y).1 15) + 100) - 100))] [.int v] := by
  obtain ⟨S23_, hS23_⟩ : ∃ z, c_X4_sample_1 x1 y1 S y = z := ⟨_, rfl⟩
  rw [hS23_]
  obtain ⟨S24_, hS24_⟩ : ∃ z, c_X4_sample_y x1 y1 S y = z := ⟨_, rfl⟩
  rw [hS24_]
  refine g_istore E (lv' := [(20, .int v), (0, .ref (x 0)), (1, .int x1), (2, .int y1), (3, .int (S.1 9)), (4, .int (x1 - ((S.1 7) / 16))), (5, .int (y1 - ((S.1 8) / 16))), (9, .int (S.1 16)), (10, .int (S.1 17)), (11, .int (S.1 20)), (12, .int (S.1 7)), (13, .int (S.1 8)), (18, .int (((S23_.1 14) + 100) - 100)), (19, .int (((S23_.1 15) + 100) - 100))]) dL_isSample_568 (by decide) rfl ?_
  refine g_aload_n E 1 dL_isSample_570 rfl rfl ?_
  refine g_iconst E 4 dL_isSample_571 (by decide) ?_
  refine g_callVi0 E gc_X4_count ml_L_8 (t_X4_count d x a b c e 4 p1 q S23_ T h t S24_ ss ) rfl rfl (ci := 4) 0 rfl rfl rfl rfl (ok_le rfl) ⟨ok_le rfl, ok_le rfl, ok_le rfl, ok_le rfl⟩ rfl rfl dL_isSample_572 ?_
  refine g_top (b := S23_.1 16) (count_4 _ _ _) ?_
  refine g_iload E 7 dL_isSample_575 rfl ?_
  refine g_icmpne E 625 dL_isSample_577 (by decide) (fun c_577 => ?_) (fun c_577 => ?_)
  · skip
    refine g_iconst E 0 dL_isSample_625 (by decide) ?_
    refine g_lvs (lv' := [(0, .ref (x 0)), (1, .int x1), (2, .int y1), (3, .int (S.1 9)), (4, .int (x1 - ((S.1 7) / 16))), (5, .int (y1 - ((S.1 8) / 16))), (12, .int (S.1 7)), (13, .int (S.1 8)), (18, .int (((S23_.1 14) + 100) - 100)), (19, .int (((S23_.1 15) + 100) - 100)), (20, .int v)]) [1, 2, 3, 4, 5, 6, 10, 11, 12, 13, 0] rfl ?_
    subst hS24_
    subst hS23_
    exact s_L_isSample_626 d x a b c e x1 y1 p q S T h t y ss hy hu hz 0 v p1 (by first | exact Or.inl rfl | exact Or.inr rfl | assumption) E (fun pc_ lv_ v_ u_ h1_ h2_ h3_ h4_ => RET pc_ lv_ v_ u_ h1_ h2_ (h3_.trans (by rw [r_L_isSample_at568, if_neg c_577])) (h4_.imp (fun _ h5_ => h5_.trans (by rw [c_L_isSample_1_at568, c_L_isSample_y_at568]))))
  · skip
    refine g_aload_n E 1 dL_isSample_580 rfl rfl ?_
    refine g_bipush E 9 dL_isSample_581 (by decide) ?_
    refine g_callVi0 E gc_X4_count ml_L_8 (t_X4_count d x a b c e 9 p1 q S23_ T h t S24_ ss ) rfl rfl (ci := 4) 0 rfl rfl rfl rfl (ok_le rfl) ⟨ok_le rfl, ok_le rfl, ok_le rfl, ok_le rfl⟩ rfl rfl dL_isSample_583 ?_
    refine g_top (b := S23_.1 20) (count_9 _ _ _) ?_
    refine g_iload E 9 dL_isSample_586 rfl ?_
    refine g_icmpne E 625 dL_isSample_588 (by decide) (fun c_588 => ?_) (fun c_588 => ?_)
    · skip
      refine g_iconst E 0 dL_isSample_625 (by decide) ?_
      refine g_lvs (lv' := [(0, .ref (x 0)), (1, .int x1), (2, .int y1), (3, .int (S.1 9)), (4, .int (x1 - ((S.1 7) / 16))), (5, .int (y1 - ((S.1 8) / 16))), (12, .int (S.1 7)), (13, .int (S.1 8)), (18, .int (((S23_.1 14) + 100) - 100)), (19, .int (((S23_.1 15) + 100) - 100)), (20, .int v)]) [1, 2, 3, 4, 5, 6, 10, 11, 12, 13, 0] rfl ?_
      subst hS24_
      subst hS23_
      exact s_L_isSample_626 d x a b c e x1 y1 p q S T h t y ss hy hu hz 0 v p1 (by first | exact Or.inl rfl | exact Or.inr rfl | assumption) E (fun pc_ lv_ v_ u_ h1_ h2_ h3_ h4_ => RET pc_ lv_ v_ u_ h1_ h2_ (h3_.trans (by rw [r_L_isSample_at568, if_pos c_577, if_neg c_588])) (h4_.imp (fun _ h5_ => h5_.trans (by rw [c_L_isSample_1_at568, c_L_isSample_y_at568]))))
    · skip
      refine g_aload_n E 1 dL_isSample_591 rfl rfl ?_
      refine g_iconst E 1 dL_isSample_592 (by decide) ?_
      refine g_callVi0 E gc_X4_count ml_L_8 (t_X4_count d x a b c e 1 p1 q S23_ T h t S24_ ss ) rfl rfl (ci := 4) 0 rfl rfl rfl rfl (ok_le rfl) ⟨ok_le rfl, ok_le rfl, ok_le rfl, ok_le rfl⟩ rfl rfl dL_isSample_593 ?_
      refine g_top (b := S23_.1 9) (count_1 _ _ _) ?_
      refine g_iload_n E 4 dL_isSample_596 rfl rfl ?_
      refine g_icmpne E 625 dL_isSample_597 (by decide) (fun c_597 => ?_) (fun c_597 => ?_)
      · skip
        refine g_iconst E 0 dL_isSample_625 (by decide) ?_
        refine g_lvs (lv' := [(0, .ref (x 0)), (1, .int x1), (2, .int y1), (3, .int (S.1 9)), (4, .int (x1 - ((S.1 7) / 16))), (5, .int (y1 - ((S.1 8) / 16))), (12, .int (S.1 7)), (13, .int (S.1 8)), (18, .int (((S23_.1 14) + 100) - 100)), (19, .int (((S23_.1 15) + 100) - 100)), (20, .int v)]) [1, 2, 3, 4, 5, 6, 10, 11, 12, 13, 0] rfl ?_
        subst hS24_
        subst hS23_
        exact s_L_isSample_626 d x a b c e x1 y1 p q S T h t y ss hy hu hz 0 v p1 (by first | exact Or.inl rfl | exact Or.inr rfl | assumption) E (fun pc_ lv_ v_ u_ h1_ h2_ h3_ h4_ => RET pc_ lv_ v_ u_ h1_ h2_ (h3_.trans (by rw [r_L_isSample_at568, if_pos c_577, if_pos c_588, if_neg c_597])) (h4_.imp (fun _ h5_ => h5_.trans (by rw [c_L_isSample_1_at568, c_L_isSample_y_at568]))))
      · skip
        refine g_aload_n E 1 dL_isSample_600 rfl rfl ?_
        refine g_iconst E 5 dL_isSample_601 (by decide) ?_
        refine g_callVi0 E gc_X4_count ml_L_8 (t_X4_count d x a b c e 5 p1 q S23_ T h t S24_ ss ) rfl rfl (ci := 4) 0 rfl rfl rfl rfl (ok_le rfl) ⟨ok_le rfl, ok_le rfl, ok_le rfl, ok_le rfl⟩ rfl rfl dL_isSample_602 ?_
        refine g_top (b := S23_.1 17) (count_5 _ _ _) ?_
        refine g_iload E 8 dL_isSample_605 rfl ?_
        refine g_iload E 0 dL_isSample_607 rfl ?_
        refine g_ifeq E 616 dL_isSample_609 (by decide) (fun c_609 => ?_) (fun c_609 => ?_)
        · skip
          refine g_iconst E 0 dL_isSample_616 (by decide) ?_
          refine g_iadd E dL_isSample_617 ?_
          refine g_icmpne E 625 dL_isSample_618 (by decide) (fun c_618 => ?_) (fun c_618 => ?_)
          · skip
            refine g_iconst E 0 dL_isSample_625 (by decide) ?_
            refine g_lvs (lv' := [(0, .ref (x 0)), (1, .int x1), (2, .int y1), (3, .int (S.1 9)), (4, .int (x1 - ((S.1 7) / 16))), (5, .int (y1 - ((S.1 8) / 16))), (12, .int (S.1 7)), (13, .int (S.1 8)), (18, .int (((S23_.1 14) + 100) - 100)), (19, .int (((S23_.1 15) + 100) - 100)), (20, .int v)]) [1, 2, 3, 4, 5, 6, 10, 11, 12, 13, 0] rfl ?_
            subst hS24_
            subst hS23_
            exact s_L_isSample_626 d x a b c e x1 y1 p q S T h t y ss hy hu hz 0 v p1 (by first | exact Or.inl rfl | exact Or.inr rfl | assumption) E (fun pc_ lv_ v_ u_ h1_ h2_ h3_ h4_ => RET pc_ lv_ v_ u_ h1_ h2_ (h3_.trans (by rw [r_L_isSample_at568, if_pos c_577, if_pos c_588, if_pos c_597, if_pos c_609, if_neg c_618])) (h4_.imp (fun _ h5_ => h5_.trans (by rw [c_L_isSample_1_at568, c_L_isSample_y_at568]))))
          · skip
            refine g_iconst E 1 dL_isSample_621 (by decide) ?_
            refine g_goto E 626 dL_isSample_622 (by decide) ?_
            refine g_lvs (lv' := [(0, .ref (x 0)), (1, .int x1), (2, .int y1), (3, .int (S.1 9)), (4, .int (x1 - ((S.1 7) / 16))), (5, .int (y1 - ((S.1 8) / 16))), (12, .int (S.1 7)), (13, .int (S.1 8)), (18, .int (((S23_.1 14) + 100) - 100)), (19, .int (((S23_.1 15) + 100) - 100)), (20, .int v)]) [1, 2, 3, 4, 5, 6, 10, 11, 12, 13, 0] rfl ?_
            subst hS24_
            subst hS23_
            exact s_L_isSample_626 d x a b c e x1 y1 p q S T h t y ss hy hu hz 1 v p1 (by first | exact Or.inl rfl | exact Or.inr rfl | assumption) E (fun pc_ lv_ v_ u_ h1_ h2_ h3_ h4_ => RET pc_ lv_ v_ u_ h1_ h2_ (h3_.trans (by rw [r_L_isSample_at568, if_pos c_577, if_pos c_588, if_pos c_597, if_pos c_609, if_pos c_618])) (h4_.imp (fun _ h5_ => h5_.trans (by rw [c_L_isSample_1_at568, c_L_isSample_y_at568]))))
        · skip
          refine g_iconst E 1 dL_isSample_612 (by decide) ?_
          refine g_goto E 617 dL_isSample_613 (by decide) ?_
          refine g_iadd E dL_isSample_617 ?_
          refine g_icmpne E 625 dL_isSample_618 (by decide) (fun c_618 => ?_) (fun c_618 => ?_)
          · skip
            refine g_iconst E 0 dL_isSample_625 (by decide) ?_
            refine g_lvs (lv' := [(0, .ref (x 0)), (1, .int x1), (2, .int y1), (3, .int (S.1 9)), (4, .int (x1 - ((S.1 7) / 16))), (5, .int (y1 - ((S.1 8) / 16))), (12, .int (S.1 7)), (13, .int (S.1 8)), (18, .int (((S23_.1 14) + 100) - 100)), (19, .int (((S23_.1 15) + 100) - 100)), (20, .int v)]) [1, 2, 3, 4, 5, 6, 10, 11, 12, 13, 0] rfl ?_
            subst hS24_
            subst hS23_
            exact s_L_isSample_626 d x a b c e x1 y1 p q S T h t y ss hy hu hz 0 v p1 (by first | exact Or.inl rfl | exact Or.inr rfl | assumption) E (fun pc_ lv_ v_ u_ h1_ h2_ h3_ h4_ => RET pc_ lv_ v_ u_ h1_ h2_ (h3_.trans (by rw [r_L_isSample_at568, if_pos c_577, if_pos c_588, if_pos c_597, if_neg c_609, if_neg c_618])) (h4_.imp (fun _ h5_ => h5_.trans (by rw [c_L_isSample_1_at568, c_L_isSample_y_at568]))))
          · skip
            refine g_iconst E 1 dL_isSample_621 (by decide) ?_
            refine g_goto E 626 dL_isSample_622 (by decide) ?_
            refine g_lvs (lv' := [(0, .ref (x 0)), (1, .int x1), (2, .int y1), (3, .int (S.1 9)), (4, .int (x1 - ((S.1 7) / 16))), (5, .int (y1 - ((S.1 8) / 16))), (12, .int (S.1 7)), (13, .int (S.1 8)), (18, .int (((S23_.1 14) + 100) - 100)), (19, .int (((S23_.1 15) + 100) - 100)), (20, .int v)]) [1, 2, 3, 4, 5, 6, 10, 11, 12, 13, 0] rfl ?_
            subst hS24_
            subst hS23_
            exact s_L_isSample_626 d x a b c e x1 y1 p q S T h t y ss hy hu hz 1 v p1 (by first | exact Or.inl rfl | exact Or.inr rfl | assumption) E (fun pc_ lv_ v_ u_ h1_ h2_ h3_ h4_ => RET pc_ lv_ v_ u_ h1_ h2_ (h3_.trans (by rw [r_L_isSample_at568, if_pos c_577, if_pos c_588, if_pos c_597, if_neg c_609, if_pos c_618])) (h4_.imp (fun _ h5_ => h5_.trans (by rw [c_L_isSample_1_at568, c_L_isSample_y_at568]))))
set_option maxHeartbeats 1000000 in
set_option maxRecDepth 100000 in
theorem s_L_isSample_526 (d : gD) (x : Nat → Nat) (a : Nat → Nat) (b : Nat → Nat) (c : Nat → Nat) (e : Nat → Nat) (x1 : Int32) (y1 : Int32) (p : Nat → Nat → Nat) (q : Nat → Nat → Nat) (S : SS) (T : SS) (h : Nat → Int32) (t : Nat → Int32) (y : HS) (ss : Nat → Option SS) (hy : y.1 < 6 ∧ y.2.1 ≤ 6) (hu : ¬ S.2.2.1 0 < 0) (hz : ¬ S.2.1 0 = 0) (v : Int32) (p1 : Nat → Nat → Nat) (hv : v = 0 ∨ v = 1) {X : gX} (E : gE d X RL cL_isSample 22 R_L_isSample) (RET : ∀ (pc_ : Nat) (lv_ : List (Nat × Value)) (v_ : Int32) (u_ : va_W), decode cL_isSample pc_ = .ok (.ireturn, 1) → narrow .boolean (.int v_) = .int v_ → v_ = r_L_isSample_at526 x1 y1 S y v → (∃ p_ : Nat → Nat → Nat, u_ = XW d (x, a, b, c, e) p_ q (c_L_isSample_1_at526 x1 y1 S y v) T h t (c_L_isSample_y_at526 x1 y1 S y v) ss) → G d X u_ R_L_isSample.cells R_L_isSample.slots pc_ lv_ [.int v_]) : G d X (XW d (x, a, b, c, e) p1 q (c_X4_sample_1 x1 y1 S y) T h t (c_X4_sample_y x1 y1 S y) ss) 6 57 526 [] [.int v] := by
  obtain ⟨S23_, hS23_⟩ : ∃ z, c_X4_sample_1 x1 y1 S y = z := ⟨_, rfl⟩
  rw [hS23_]
  obtain ⟨S24_, hS24_⟩ : ∃ z, c_X4_sample_y x1 y1 S y = z := ⟨_, rfl⟩
  rw [hS24_]
  subst hS24_
  subst hS23_
  exact RET 526 _ v _ dL_isSample_526 (nar_b hv) (by rw [r_L_isSample_at526]) ⟨p1, (by rw [c_L_isSample_1_at526, c_L_isSample_y_at526])⟩
set_option maxHeartbeats 1000000 in
set_option maxRecDepth 100000 in
theorem s_L_isSample_351 (d : gD) (x : Nat → Nat) (a : Nat → Nat) (b : Nat → Nat) (c : Nat → Nat) (e : Nat → Nat) (x1 : Int32) (y1 : Int32) (p : Nat → Nat → Nat) (q : Nat → Nat → Nat) (S : SS) (T : SS) (h : Nat → Int32) (t : Nat → Int32) (y : HS) (ss : Nat → Option SS) (hy : y.1 < 6 ∧ y.2.1 ≤ 6) (hu : ¬ S.2.2.1 0 < 0) (hz : ¬ S.2.1 0 = 0) (v : Int32) (p1 : Nat → Nat → Nat) (hv : v = 0 ∨ v = 1) {X : gX} (E : gE d X RL cL_isSample 22 R_L_isSample) (RET : ∀ (pc_ : Nat) (lv_ : List (Nat × Value)) (v_ : Int32) (u_ : va_W), decode cL_isSample pc_ = .ok (.ireturn, 1) → narrow .boolean (.int v_) = .int v_ → v_ = r_L_isSample_at351 x1 y1 S y v → (∃ p_ : Nat → Nat → Nat, u_ = XW d (x, a, b, c, e) p_ q (c_L_isSample_1_at351 x1 y1 S y v) T h t (c_L_isSample_y_at351 x1 y1 S y v) ss) → G d X u_ R_L_isSample.cells R_L_isSample.slots pc_ lv_ [.int v_]) : G d X (XW d (x, a, b, c, e) p1 q (c_X4_sample_1 x1 y1 S y) T h t (c_X4_sample_y x1 y1 S y) ss) 6 57 351 [(0, .ref (x 0)), (1, .int x1), (2, .int y1), (3, .int (S.1 9)), (6, .int (r_L_greater (r_L_size (x1 - ((S.1 7) / 16))) (r_L_size (y1 - ((S.1 8) / 16))))), (8, .int (S.1 13)), (11, .int (S.1 20)), (12, .int (S.1 7)), (13, .int (S.1 8))] [.int v] := by
  obtain ⟨v4_, hv4_⟩ : ∃ z, r_L_size (x1 - ((S.1 7) / 16)) = z := ⟨_, rfl⟩
  rw [hv4_]
  obtain ⟨v5_, hv5_⟩ : ∃ z, r_L_size (y1 - ((S.1 8) / 16)) = z := ⟨_, rfl⟩
  rw [hv5_]
  obtain ⟨v6_, hv6_⟩ : ∃ z, r_L_greater v4_ v5_ = z := ⟨_, rfl⟩
  rw [hv6_]
  obtain ⟨S23_, hS23_⟩ : ∃ z, c_X4_sample_1 x1 y1 S y = z := ⟨_, rfl⟩
  rw [hS23_]
  obtain ⟨S24_, hS24_⟩ : ∃ z, c_X4_sample_y x1 y1 S y = z := ⟨_, rfl⟩
  rw [hS24_]
  refine g_istore E (lv' := [(20, .int v), (0, .ref (x 0)), (1, .int x1), (2, .int y1), (3, .int (S.1 9)), (6, .int v6_), (8, .int (S.1 13)), (11, .int (S.1 20)), (12, .int (S.1 7)), (13, .int (S.1 8))]) dL_isSample_351 (by decide) rfl ?_
  refine g_aload_n E 1 dL_isSample_353 rfl rfl ?_
  refine g_bipush E 10 dL_isSample_354 (by decide) ?_
  refine g_callVi0 E gc_X4_count ml_L_8 (t_X4_count d x a b c e 10 p1 q S23_ T h t S24_ ss ) rfl rfl (ci := 4) 0 rfl rfl rfl rfl (ok_le rfl) ⟨ok_le rfl, ok_le rfl, ok_le rfl, ok_le rfl⟩ rfl rfl dL_isSample_356 ?_
  refine g_top (b := S23_.2.1 0) (count_10 _ _ _) ?_
  refine g_istore E (lv' := [(21, .int (S23_.2.1 0)), (20, .int v), (0, .ref (x 0)), (1, .int x1), (2, .int y1), (3, .int (S.1 9)), (6, .int v6_), (8, .int (S.1 13)), (11, .int (S.1 20)), (12, .int (S.1 7)), (13, .int (S.1 8))]) dL_isSample_359 (by decide) rfl ?_
  refine g_iload E 1 dL_isSample_361 rfl ?_
  refine g_ifeq E 525 dL_isSample_363 (by decide) (fun c_363 => ?_) (fun c_363 => ?_)
  · skip
    refine g_iconst E 0 dL_isSample_525 (by decide) ?_
    refine g_lvs (lv' := []) [] rfl ?_
    subst hS24_
    subst hS23_
    subst hv6_
    subst hv5_
    subst hv4_
    exact s_L_isSample_526 d x a b c e x1 y1 p q S T h t y ss hy hu hz 0 p1 (by first | exact Or.inl rfl | exact Or.inr rfl | assumption) E (fun pc_ lv_ v_ u_ h1_ h2_ h3_ h4_ => RET pc_ lv_ v_ u_ h1_ h2_ (h3_.trans (by rw [r_L_isSample_at351, if_pos c_363])) (h4_.imp (fun _ h5_ => h5_.trans (by rw [c_L_isSample_1_at351, c_L_isSample_y_at351]))))
  · skip
    refine g_iload E 7 dL_isSample_366 rfl ?_
    refine g_ifle E 418 dL_isSample_368 (by decide) (fun c_368 => ?_) (fun c_368 => ?_)
    · skip
      refine g_aload_n E 2 dL_isSample_418 rfl rfl ?_
      refine g_bipush E 9 dL_isSample_419 (by decide) ?_
      refine g_callVi0 E gc_X4_count ml_L_8 (t_X4_count d x a b c e 9 p1 q S23_ T h t S24_ ss ) rfl rfl (ci := 4) 0 rfl rfl rfl rfl (ok_le rfl) ⟨ok_le rfl, ok_le rfl, ok_le rfl, ok_le rfl⟩ rfl rfl dL_isSample_421 ?_
      refine g_top (b := S23_.1 20) (count_9 _ _ _) ?_
      refine g_iload E 8 dL_isSample_424 rfl ?_
      refine g_icmpne E 525 dL_isSample_426 (by decide) (fun c_426 => ?_) (fun c_426 => ?_)
      · skip
        refine g_iconst E 0 dL_isSample_525 (by decide) ?_
        refine g_lvs (lv' := []) [] rfl ?_
        subst hS24_
        subst hS23_
        subst hv6_
        subst hv5_
        subst hv4_
        exact s_L_isSample_526 d x a b c e x1 y1 p q S T h t y ss hy hu hz 0 p1 (by first | exact Or.inl rfl | exact Or.inr rfl | assumption) E (fun pc_ lv_ v_ u_ h1_ h2_ h3_ h4_ => RET pc_ lv_ v_ u_ h1_ h2_ (h3_.trans (by rw [r_L_isSample_at351, if_neg c_363, if_neg c_368, if_neg c_426])) (h4_.imp (fun _ h5_ => h5_.trans (by rw [c_L_isSample_1_at351, c_L_isSample_y_at351]))))
      · skip
        refine g_aload_n E 2 dL_isSample_429 rfl rfl ?_
        refine g_iconst E 0 dL_isSample_430 (by decide) ?_
        refine g_iconst E 0 dL_isSample_431 (by decide) ?_
        refine g_callVi0 E gc_X4_of ml_L_14 (t_X4_of d x a b c e 0 0 p1 q S23_ T h t S24_ ss ) rfl rfl (ci := 4) 0 rfl rfl rfl rfl (ok_le rfl) ⟨ok_le rfl, ok_le rfl, ok_le rfl, ok_le rfl⟩ rfl rfl dL_isSample_432 ?_
        refine g_top (b := S23_.1 7) (of_0_0 _) ?_
        refine g_iload E 9 dL_isSample_435 rfl ?_
        refine g_bipush E 16 dL_isSample_437 (by decide) ?_
        refine g_iload_n E 3 dL_isSample_439 rfl rfl ?_
        refine g_imul E dL_isSample_440 ?_
        refine g_iload E 9 dL_isSample_441 rfl ?_
        refine g_isub E dL_isSample_443 ?_
        refine g_iload E 0 dL_isSample_444 rfl ?_
        refine g_idiv E dL_isSample_446 (by subst_vars; rw [samp_st]; exact hz) ?_
        refine g_iadd E dL_isSample_447 ?_
        refine g_icmpne E 525 dL_isSample_448 (by decide) (fun c_448 => ?_) (fun c_448 => ?_)
        · skip
          refine g_iconst E 0 dL_isSample_525 (by decide) ?_
          refine g_lvs (lv' := []) [] rfl ?_
          subst hS24_
          subst hS23_
          subst hv6_
          subst hv5_
          subst hv4_
          exact s_L_isSample_526 d x a b c e x1 y1 p q S T h t y ss hy hu hz 0 p1 (by first | exact Or.inl rfl | exact Or.inr rfl | assumption) E (fun pc_ lv_ v_ u_ h1_ h2_ h3_ h4_ => RET pc_ lv_ v_ u_ h1_ h2_ (h3_.trans (by rw [r_L_isSample_at351, if_neg c_363, if_neg c_368, if_pos c_426, if_neg c_448])) (h4_.imp (fun _ h5_ => h5_.trans (by rw [c_L_isSample_1_at351, c_L_isSample_y_at351]))))
        · skip
          refine g_aload_n E 2 dL_isSample_451 rfl rfl ?_
          refine g_iconst E 1 dL_isSample_452 (by decide) ?_
          refine g_iconst E 0 dL_isSample_453 (by decide) ?_
          refine g_callVi0 E gc_X4_of ml_L_14 (t_X4_of d x a b c e 1 0 p1 q S23_ T h t S24_ ss ) rfl rfl (ci := 4) 0 rfl rfl rfl rfl (ok_le rfl) ⟨ok_le rfl, ok_le rfl, ok_le rfl, ok_le rfl⟩ rfl rfl dL_isSample_454 ?_
          refine g_top (b := S23_.1 8) (of_1_0 _) ?_
          refine g_iload E 10 dL_isSample_457 rfl ?_
          refine g_bipush E 16 dL_isSample_459 (by decide) ?_
          refine g_iload_n E 4 dL_isSample_461 rfl rfl ?_
          refine g_imul E dL_isSample_462 ?_
          refine g_iload E 10 dL_isSample_463 rfl ?_
          refine g_isub E dL_isSample_465 ?_
          refine g_iload E 0 dL_isSample_466 rfl ?_
          refine g_idiv E dL_isSample_468 (by subst_vars; rw [samp_st]; exact hz) ?_
          refine g_iadd E dL_isSample_469 ?_
          refine g_icmpne E 525 dL_isSample_470 (by decide) (fun c_470 => ?_) (fun c_470 => ?_)
          · skip
            refine g_iconst E 0 dL_isSample_525 (by decide) ?_
            refine g_lvs (lv' := []) [] rfl ?_
            subst hS24_
            subst hS23_
            subst hv6_
            subst hv5_
            subst hv4_
            exact s_L_isSample_526 d x a b c e x1 y1 p q S T h t y ss hy hu hz 0 p1 (by first | exact Or.inl rfl | exact Or.inr rfl | assumption) E (fun pc_ lv_ v_ u_ h1_ h2_ h3_ h4_ => RET pc_ lv_ v_ u_ h1_ h2_ (h3_.trans (by rw [r_L_isSample_at351, if_neg c_363, if_neg c_368, if_pos c_426, if_pos c_448, if_neg c_470])) (h4_.imp (fun _ h5_ => h5_.trans (by rw [c_L_isSample_1_at351, c_L_isSample_y_at351]))))
          · skip
            refine g_aload_n E 2 dL_isSample_473 rfl rfl ?_
            refine g_iconst E 1 dL_isSample_474 (by decide) ?_
            refine g_callVi0 E gc_X4_count ml_L_8 (t_X4_count d x a b c e 1 p1 q S23_ T h t S24_ ss ) rfl rfl (ci := 4) 0 rfl rfl rfl rfl (ok_le rfl) ⟨ok_le rfl, ok_le rfl, ok_le rfl, ok_le rfl⟩ rfl rfl dL_isSample_475 ?_
            refine g_top (b := S23_.1 9) (count_1 _ _ _) ?_
            refine g_iload_n E 5 dL_isSample_478 rfl rfl ?_
            refine g_isub E dL_isSample_479 ?_
            refine g_callSp E gc_L_size ml_L_18 (t_L_size d ((S23_.1 9) - (S.1 9)) ) rfl rfl rfl (ok_le rfl) ⟨ok_le rfl, ok_le rfl, ok_le rfl, ok_le rfl⟩ rfl rfl dL_isSample_480 ?_
            refine g_nm (fun v55_ hv55_ => ?_)
            refine g_iconst E 2 dL_isSample_483 (by decide) ?_
            refine g_icmpge E 525 dL_isSample_484 (by decide) (fun c_484 => ?_) (fun c_484 => ?_)
            · skip
              refine g_iconst E 0 dL_isSample_525 (by decide) ?_
              refine g_lvs (lv' := []) [] rfl ?_
              subst hv55_
              subst hS24_
              subst hS23_
              subst hv6_
              subst hv5_
              subst hv4_
              exact s_L_isSample_526 d x a b c e x1 y1 p q S T h t y ss hy hu hz 0 p1 (by first | exact Or.inl rfl | exact Or.inr rfl | assumption) E (fun pc_ lv_ v_ u_ h1_ h2_ h3_ h4_ => RET pc_ lv_ v_ u_ h1_ h2_ (h3_.trans (by rw [r_L_isSample_at351, if_neg c_363, if_neg c_368, if_pos c_426, if_pos c_448, if_pos c_470, if_neg c_484])) (h4_.imp (fun _ h5_ => h5_.trans (by rw [c_L_isSample_1_at351, c_L_isSample_y_at351]))))
            · skip
              refine g_iconst E 2 dL_isSample_487 (by decide) ?_
              refine g_iload E 6 dL_isSample_488 rfl ?_
              refine g_imul E dL_isSample_490 ?_
              refine g_iload_n E 5 dL_isSample_491 rfl rfl ?_
              refine g_icmple E 504 dL_isSample_492 (by decide) (fun c_492 => ?_) (fun c_492 => ?_)
              · skip
                refine g_iconst E 4 dL_isSample_504 (by decide) ?_
                refine g_iload E 6 dL_isSample_505 rfl ?_
                refine g_imul E dL_isSample_507 ?_
                refine g_iload_n E 5 dL_isSample_508 rfl rfl ?_
                refine g_icmpgt E 521 dL_isSample_509 (by decide) (fun c_509 => ?_) (fun c_509 => ?_)
                · skip
                  refine g_iconst E 1 dL_isSample_521 (by decide) ?_
                  refine g_goto E 526 dL_isSample_522 (by decide) ?_
                  refine g_lvs (lv' := []) [] rfl ?_
                  subst hv55_
                  subst hS24_
                  subst hS23_
                  subst hv6_
                  subst hv5_
                  subst hv4_
                  exact s_L_isSample_526 d x a b c e x1 y1 p q S T h t y ss hy hu hz 1 p1 (by first | exact Or.inl rfl | exact Or.inr rfl | assumption) E (fun pc_ lv_ v_ u_ h1_ h2_ h3_ h4_ => RET pc_ lv_ v_ u_ h1_ h2_ (h3_.trans (by rw [r_L_isSample_at351, if_neg c_363, if_neg c_368, if_pos c_426, if_pos c_448, if_pos c_470, if_pos c_484, if_neg c_492, if_pos c_509])) (h4_.imp (fun _ h5_ => h5_.trans (by rw [c_L_isSample_1_at351, c_L_isSample_y_at351]))))
                · skip
                  refine g_aload_n E 2 dL_isSample_512 rfl rfl ?_
                  refine g_iconst E 1 dL_isSample_513 (by decide) ?_
                  refine g_callVi0 E gc_X4_count ml_L_8 (t_X4_count d x a b c e 1 p1 q S23_ T h t S24_ ss ) rfl rfl (ci := 4) 0 rfl rfl rfl rfl (ok_le rfl) ⟨ok_le rfl, ok_le rfl, ok_le rfl, ok_le rfl⟩ rfl rfl dL_isSample_514 ?_
                  refine g_top (b := S23_.1 9) (count_1 _ _ _) ?_
                  refine g_iload_n E 5 dL_isSample_517 rfl rfl ?_
                  refine g_icmpgt E 525 dL_isSample_518 (by decide) (fun c_518 => ?_) (fun c_518 => ?_)
                  · skip
                    refine g_iconst E 0 dL_isSample_525 (by decide) ?_
                    refine g_lvs (lv' := []) [] rfl ?_
                    subst hv55_
                    subst hS24_
                    subst hS23_
                    subst hv6_
                    subst hv5_
                    subst hv4_
                    exact s_L_isSample_526 d x a b c e x1 y1 p q S T h t y ss hy hu hz 0 p1 (by first | exact Or.inl rfl | exact Or.inr rfl | assumption) E (fun pc_ lv_ v_ u_ h1_ h2_ h3_ h4_ => RET pc_ lv_ v_ u_ h1_ h2_ (h3_.trans (by rw [r_L_isSample_at351, if_neg c_363, if_neg c_368, if_pos c_426, if_pos c_448, if_pos c_470, if_pos c_484, if_neg c_492, if_neg c_509, if_pos c_518])) (h4_.imp (fun _ h5_ => h5_.trans (by rw [c_L_isSample_1_at351, c_L_isSample_y_at351]))))
                  · skip
                    refine g_iconst E 1 dL_isSample_521 (by decide) ?_
                    refine g_goto E 526 dL_isSample_522 (by decide) ?_
                    refine g_lvs (lv' := []) [] rfl ?_
                    subst hv55_
                    subst hS24_
                    subst hS23_
                    subst hv6_
                    subst hv5_
                    subst hv4_
                    exact s_L_isSample_526 d x a b c e x1 y1 p q S T h t y ss hy hu hz 1 p1 (by first | exact Or.inl rfl | exact Or.inr rfl | assumption) E (fun pc_ lv_ v_ u_ h1_ h2_ h3_ h4_ => RET pc_ lv_ v_ u_ h1_ h2_ (h3_.trans (by rw [r_L_isSample_at351, if_neg c_363, if_neg c_368, if_pos c_426, if_pos c_448, if_pos c_470, if_pos c_484, if_neg c_492, if_neg c_509, if_neg c_518])) (h4_.imp (fun _ h5_ => h5_.trans (by rw [c_L_isSample_1_at351, c_L_isSample_y_at351]))))
              · skip
                refine g_aload_n E 2 dL_isSample_495 rfl rfl ?_
                refine g_iconst E 1 dL_isSample_496 (by decide) ?_
                refine g_callVi0 E gc_X4_count ml_L_8 (t_X4_count d x a b c e 1 p1 q S23_ T h t S24_ ss ) rfl rfl (ci := 4) 0 rfl rfl rfl rfl (ok_le rfl) ⟨ok_le rfl, ok_le rfl, ok_le rfl, ok_le rfl⟩ rfl rfl dL_isSample_497 ?_
                refine g_top (b := S23_.1 9) (count_1 _ _ _) ?_
                refine g_iload_n E 5 dL_isSample_500 rfl rfl ?_
                refine g_icmplt E 525 dL_isSample_501 (by decide) (fun c_501 => ?_) (fun c_501 => ?_)
                · skip
                  refine g_iconst E 0 dL_isSample_525 (by decide) ?_
                  refine g_lvs (lv' := []) [] rfl ?_
                  subst hv55_
                  subst hS24_
                  subst hS23_
                  subst hv6_
                  subst hv5_
                  subst hv4_
                  exact s_L_isSample_526 d x a b c e x1 y1 p q S T h t y ss hy hu hz 0 p1 (by first | exact Or.inl rfl | exact Or.inr rfl | assumption) E (fun pc_ lv_ v_ u_ h1_ h2_ h3_ h4_ => RET pc_ lv_ v_ u_ h1_ h2_ (h3_.trans (by rw [r_L_isSample_at351, if_neg c_363, if_neg c_368, if_pos c_426, if_pos c_448, if_pos c_470, if_pos c_484, if_pos c_492, if_pos c_501])) (h4_.imp (fun _ h5_ => h5_.trans (by rw [c_L_isSample_1_at351, c_L_isSample_y_at351]))))
                · skip
                  refine g_iconst E 4 dL_isSample_504 (by decide) ?_
                  refine g_iload E 6 dL_isSample_505 rfl ?_
                  refine g_imul E dL_isSample_507 ?_
                  refine g_iload_n E 5 dL_isSample_508 rfl rfl ?_
                  refine g_icmpgt E 521 dL_isSample_509 (by decide) (fun c_509 => ?_) (fun c_509 => ?_)
                  · skip
                    refine g_iconst E 1 dL_isSample_521 (by decide) ?_
                    refine g_goto E 526 dL_isSample_522 (by decide) ?_
                    refine g_lvs (lv' := []) [] rfl ?_
                    subst hv55_
                    subst hS24_
                    subst hS23_
                    subst hv6_
                    subst hv5_
                    subst hv4_
                    exact s_L_isSample_526 d x a b c e x1 y1 p q S T h t y ss hy hu hz 1 p1 (by first | exact Or.inl rfl | exact Or.inr rfl | assumption) E (fun pc_ lv_ v_ u_ h1_ h2_ h3_ h4_ => RET pc_ lv_ v_ u_ h1_ h2_ (h3_.trans (by rw [r_L_isSample_at351, if_neg c_363, if_neg c_368, if_pos c_426, if_pos c_448, if_pos c_470, if_pos c_484, if_pos c_492, if_neg c_501, if_pos c_509])) (h4_.imp (fun _ h5_ => h5_.trans (by rw [c_L_isSample_1_at351, c_L_isSample_y_at351]))))
                  · skip
                    refine g_aload_n E 2 dL_isSample_512 rfl rfl ?_
                    refine g_iconst E 1 dL_isSample_513 (by decide) ?_
                    refine g_callVi0 E gc_X4_count ml_L_8 (t_X4_count d x a b c e 1 p1 q S23_ T h t S24_ ss ) rfl rfl (ci := 4) 0 rfl rfl rfl rfl (ok_le rfl) ⟨ok_le rfl, ok_le rfl, ok_le rfl, ok_le rfl⟩ rfl rfl dL_isSample_514 ?_
                    refine g_top (b := S23_.1 9) (count_1 _ _ _) ?_
                    refine g_iload_n E 5 dL_isSample_517 rfl rfl ?_
                    refine g_icmpgt E 525 dL_isSample_518 (by decide) (fun c_518 => ?_) (fun c_518 => ?_)
                    · skip
                      refine g_iconst E 0 dL_isSample_525 (by decide) ?_
                      refine g_lvs (lv' := []) [] rfl ?_
                      subst hv55_
                      subst hS24_
                      subst hS23_
                      subst hv6_
                      subst hv5_
                      subst hv4_
                      exact s_L_isSample_526 d x a b c e x1 y1 p q S T h t y ss hy hu hz 0 p1 (by first | exact Or.inl rfl | exact Or.inr rfl | assumption) E (fun pc_ lv_ v_ u_ h1_ h2_ h3_ h4_ => RET pc_ lv_ v_ u_ h1_ h2_ (h3_.trans (by rw [r_L_isSample_at351, if_neg c_363, if_neg c_368, if_pos c_426, if_pos c_448, if_pos c_470, if_pos c_484, if_pos c_492, if_neg c_501, if_neg c_509, if_pos c_518])) (h4_.imp (fun _ h5_ => h5_.trans (by rw [c_L_isSample_1_at351, c_L_isSample_y_at351]))))
                    · skip
                      refine g_iconst E 1 dL_isSample_521 (by decide) ?_
                      refine g_goto E 526 dL_isSample_522 (by decide) ?_
                      refine g_lvs (lv' := []) [] rfl ?_
                      subst hv55_
                      subst hS24_
                      subst hS23_
                      subst hv6_
                      subst hv5_
                      subst hv4_
                      exact s_L_isSample_526 d x a b c e x1 y1 p q S T h t y ss hy hu hz 1 p1 (by first | exact Or.inl rfl | exact Or.inr rfl | assumption) E (fun pc_ lv_ v_ u_ h1_ h2_ h3_ h4_ => RET pc_ lv_ v_ u_ h1_ h2_ (h3_.trans (by rw [r_L_isSample_at351, if_neg c_363, if_neg c_368, if_pos c_426, if_pos c_448, if_pos c_470, if_pos c_484, if_pos c_492, if_neg c_501, if_neg c_509, if_neg c_518])) (h4_.imp (fun _ h5_ => h5_.trans (by rw [c_L_isSample_1_at351, c_L_isSample_y_at351]))))
    · skip
      refine g_aload_n E 2 dL_isSample_371 rfl rfl ?_
      refine g_bipush E 9 dL_isSample_372 (by decide) ?_
      refine g_callVi0 E gc_X4_count ml_L_8 (t_X4_count d x a b c e 9 p1 q S23_ T h t S24_ ss ) rfl rfl (ci := 4) 0 rfl rfl rfl rfl (ok_le rfl) ⟨ok_le rfl, ok_le rfl, ok_le rfl, ok_le rfl⟩ rfl rfl dL_isSample_374 ?_
      refine g_top (b := S23_.1 20) (count_9 _ _ _) ?_
      refine g_iload E 8 dL_isSample_377 rfl ?_
      refine g_iconst E 1 dL_isSample_379 (by decide) ?_
      refine g_iadd E dL_isSample_380 ?_
      refine g_icmpne E 525 dL_isSample_381 (by decide) (fun c_381 => ?_) (fun c_381 => ?_)
      · skip
        refine g_iconst E 0 dL_isSample_525 (by decide) ?_
        refine g_lvs (lv' := []) [] rfl ?_
        subst hS24_
        subst hS23_
        subst hv6_
        subst hv5_
        subst hv4_
        exact s_L_isSample_526 d x a b c e x1 y1 p q S T h t y ss hy hu hz 0 p1 (by first | exact Or.inl rfl | exact Or.inr rfl | assumption) E (fun pc_ lv_ v_ u_ h1_ h2_ h3_ h4_ => RET pc_ lv_ v_ u_ h1_ h2_ (h3_.trans (by rw [r_L_isSample_at351, if_neg c_363, if_pos c_368, if_neg c_381])) (h4_.imp (fun _ h5_ => h5_.trans (by rw [c_L_isSample_1_at351, c_L_isSample_y_at351]))))
      · skip
        refine g_aload_n E 2 dL_isSample_384 rfl rfl ?_
        refine g_iconst E 1 dL_isSample_385 (by decide) ?_
        refine g_callVi0 E gc_X4_count ml_L_8 (t_X4_count d x a b c e 1 p1 q S23_ T h t S24_ ss ) rfl rfl (ci := 4) 0 rfl rfl rfl rfl (ok_le rfl) ⟨ok_le rfl, ok_le rfl, ok_le rfl, ok_le rfl⟩ rfl rfl dL_isSample_386 ?_
        refine g_top (b := S23_.1 9) (count_1 _ _ _) ?_
        refine g_iload_n E 5 dL_isSample_389 rfl rfl ?_
        refine g_icmpne E 525 dL_isSample_390 (by decide) (fun c_390 => ?_) (fun c_390 => ?_)
        · skip
          refine g_iconst E 0 dL_isSample_525 (by decide) ?_
          refine g_lvs (lv' := []) [] rfl ?_
          subst hS24_
          subst hS23_
          subst hv6_
          subst hv5_
          subst hv4_
          exact s_L_isSample_526 d x a b c e x1 y1 p q S T h t y ss hy hu hz 0 p1 (by first | exact Or.inl rfl | exact Or.inr rfl | assumption) E (fun pc_ lv_ v_ u_ h1_ h2_ h3_ h4_ => RET pc_ lv_ v_ u_ h1_ h2_ (h3_.trans (by rw [r_L_isSample_at351, if_neg c_363, if_pos c_368, if_pos c_381, if_neg c_390])) (h4_.imp (fun _ h5_ => h5_.trans (by rw [c_L_isSample_1_at351, c_L_isSample_y_at351]))))
        · skip
          refine g_aload_n E 2 dL_isSample_393 rfl rfl ?_
          refine g_iconst E 0 dL_isSample_394 (by decide) ?_
          refine g_iconst E 0 dL_isSample_395 (by decide) ?_
          refine g_callVi0 E gc_X4_of ml_L_14 (t_X4_of d x a b c e 0 0 p1 q S23_ T h t S24_ ss ) rfl rfl (ci := 4) 0 rfl rfl rfl rfl (ok_le rfl) ⟨ok_le rfl, ok_le rfl, ok_le rfl, ok_le rfl⟩ rfl rfl dL_isSample_396 ?_
          refine g_top (b := S23_.1 7) (of_0_0 _) ?_
          refine g_iload E 9 dL_isSample_399 rfl ?_
          refine g_icmpne E 525 dL_isSample_401 (by decide) (fun c_401 => ?_) (fun c_401 => ?_)
          · skip
            refine g_iconst E 0 dL_isSample_525 (by decide) ?_
            refine g_lvs (lv' := []) [] rfl ?_
            subst hS24_
            subst hS23_
            subst hv6_
            subst hv5_
            subst hv4_
            exact s_L_isSample_526 d x a b c e x1 y1 p q S T h t y ss hy hu hz 0 p1 (by first | exact Or.inl rfl | exact Or.inr rfl | assumption) E (fun pc_ lv_ v_ u_ h1_ h2_ h3_ h4_ => RET pc_ lv_ v_ u_ h1_ h2_ (h3_.trans (by rw [r_L_isSample_at351, if_neg c_363, if_pos c_368, if_pos c_381, if_pos c_390, if_neg c_401])) (h4_.imp (fun _ h5_ => h5_.trans (by rw [c_L_isSample_1_at351, c_L_isSample_y_at351]))))
          · skip
            refine g_aload_n E 2 dL_isSample_404 rfl rfl ?_
            refine g_iconst E 1 dL_isSample_405 (by decide) ?_
            refine g_iconst E 0 dL_isSample_406 (by decide) ?_
            refine g_callVi0 E gc_X4_of ml_L_14 (t_X4_of d x a b c e 1 0 p1 q S23_ T h t S24_ ss ) rfl rfl (ci := 4) 0 rfl rfl rfl rfl (ok_le rfl) ⟨ok_le rfl, ok_le rfl, ok_le rfl, ok_le rfl⟩ rfl rfl dL_isSample_407 ?_
            refine g_top (b := S23_.1 8) (of_1_0 _) ?_
            refine g_iload E 10 dL_isSample_410 rfl ?_
            refine g_icmpne E 525 dL_isSample_412 (by decide) (fun c_412 => ?_) (fun c_412 => ?_)
            · skip
              refine g_iconst E 0 dL_isSample_525 (by decide) ?_
              refine g_lvs (lv' := []) [] rfl ?_
              subst hS24_
              subst hS23_
              subst hv6_
              subst hv5_
              subst hv4_
              exact s_L_isSample_526 d x a b c e x1 y1 p q S T h t y ss hy hu hz 0 p1 (by first | exact Or.inl rfl | exact Or.inr rfl | assumption) E (fun pc_ lv_ v_ u_ h1_ h2_ h3_ h4_ => RET pc_ lv_ v_ u_ h1_ h2_ (h3_.trans (by rw [r_L_isSample_at351, if_neg c_363, if_pos c_368, if_pos c_381, if_pos c_390, if_pos c_401, if_neg c_412])) (h4_.imp (fun _ h5_ => h5_.trans (by rw [c_L_isSample_1_at351, c_L_isSample_y_at351]))))
            · skip
              refine g_goto E 521 dL_isSample_415 (by decide) ?_
              refine g_iconst E 1 dL_isSample_521 (by decide) ?_
              refine g_goto E 526 dL_isSample_522 (by decide) ?_
              refine g_lvs (lv' := []) [] rfl ?_
              subst hS24_
              subst hS23_
              subst hv6_
              subst hv5_
              subst hv4_
              exact s_L_isSample_526 d x a b c e x1 y1 p q S T h t y ss hy hu hz 1 p1 (by first | exact Or.inl rfl | exact Or.inr rfl | assumption) E (fun pc_ lv_ v_ u_ h1_ h2_ h3_ h4_ => RET pc_ lv_ v_ u_ h1_ h2_ (h3_.trans (by rw [r_L_isSample_at351, if_neg c_363, if_pos c_368, if_pos c_381, if_pos c_390, if_pos c_401, if_pos c_412])) (h4_.imp (fun _ h5_ => h5_.trans (by rw [c_L_isSample_1_at351, c_L_isSample_y_at351]))))
set_option maxHeartbeats 1000000 in
set_option maxRecDepth 100000 in
theorem s_L_isSample_171 (d : gD) (x : Nat → Nat) (a : Nat → Nat) (b : Nat → Nat) (c : Nat → Nat) (e : Nat → Nat) (x1 : Int32) (y1 : Int32) (p : Nat → Nat → Nat) (q : Nat → Nat → Nat) (S : SS) (T : SS) (h : Nat → Int32) (t : Nat → Int32) (y : HS) (ss : Nat → Option SS) (hy : y.1 < 6 ∧ y.2.1 ≤ 6) (hu : ¬ S.2.2.1 0 < 0) (hz : ¬ S.2.1 0 = 0) (v : Int32) (was : Int32) (hv : v = 0 ∨ v = 1) {X : gX} (E : gE d X RL cL_isSample 22 R_L_isSample) (RET : ∀ (pc_ : Nat) (lv_ : List (Nat × Value)) (v_ : Int32) (u_ : va_W), decode cL_isSample pc_ = .ok (.ireturn, 1) → narrow .boolean (.int v_) = .int v_ → v_ = r_L_isSample_at171 x1 y1 S y v was → (∃ p_ : Nat → Nat → Nat, u_ = XW d (x, a, b, c, e) p_ q (c_L_isSample_1_at171 x1 y1 S y v was) T h t (c_L_isSample_y_at171 x1 y1 S y v was) ss) → G d X u_ R_L_isSample.cells R_L_isSample.slots pc_ lv_ [.int v_]) : G d X (XW d (x, a, b, c, e) p q S T h t y ss) 0 0 171 [(0, .ref (x 0)), (1, .int x1), (2, .int y1), (3, .int (S.1 9)), (4, .int (x1 - ((S.1 7) / 16))), (5, .int (y1 - ((S.1 8) / 16))), (6, .int (r_L_greater (r_L_size (x1 - ((S.1 7) / 16))) (r_L_size (y1 - ((S.1 8) / 16))))), (7, .int (S.1 12)), (8, .int (S.1 13)), (9, .int (S.1 16)), (10, .int (S.1 17)), (11, .int (S.1 20)), (12, .int (S.1 7)), (13, .int (S.1 8)), (14, .int was)] [.int v] := by
  obtain ⟨v4_, hv4_⟩ : ∃ z, r_L_size (x1 - ((S.1 7) / 16)) = z := ⟨_, rfl⟩
  rw [hv4_]
  obtain ⟨v5_, hv5_⟩ : ∃ z, r_L_size (y1 - ((S.1 8) / 16)) = z := ⟨_, rfl⟩
  rw [hv5_]
  obtain ⟨v6_, hv6_⟩ : ∃ z, r_L_greater v4_ v5_ = z := ⟨_, rfl⟩
  rw [hv6_]
  refine g_istore E (lv' := [(15, .int v), (0, .ref (x 0)), (1, .int x1), (2, .int y1), (3, .int (S.1 9)), (4, .int (x1 - ((S.1 7) / 16))), (5, .int (y1 - ((S.1 8) / 16))), (6, .int v6_), (7, .int (S.1 12)), (8, .int (S.1 13)), (9, .int (S.1 16)), (10, .int (S.1 17)), (11, .int (S.1 20)), (12, .int (S.1 7)), (13, .int (S.1 8)), (14, .int was)]) dL_isSample_171 (by decide) rfl ?_
  refine g_aload_n E 1 dL_isSample_173 rfl rfl ?_
  refine g_iload_n E 2 dL_isSample_174 rfl rfl ?_
  refine g_iload_n E 3 dL_isSample_175 rfl rfl ?_
  refine g_callVi0 E gc_X4_wouldTell ml_L_29 (t_X4_wouldTell d x a b c e x1 y1 p q S T h t y ss ) rfl rfl (ci := 4) 0 rfl rfl rfl rfl (ok_le rfl) ⟨ok_le rfl, ok_le rfl, ok_le rfl, ok_le rfl⟩ rfl rfl dL_isSample_176 ?_
  refine g_nm (fun v21_ hv21_ => ?_)
  refine g_istore E (lv' := [(16, .int v21_), (15, .int v), (0, .ref (x 0)), (1, .int x1), (2, .int y1), (3, .int (S.1 9)), (4, .int (x1 - ((S.1 7) / 16))), (5, .int (y1 - ((S.1 8) / 16))), (6, .int v6_), (7, .int (S.1 12)), (8, .int (S.1 13)), (9, .int (S.1 16)), (10, .int (S.1 17)), (11, .int (S.1 20)), (12, .int (S.1 7)), (13, .int (S.1 8)), (14, .int was)]) dL_isSample_179 (by decide) rfl ?_
  refine g_aload_n E 2 dL_isSample_181 rfl rfl ?_
  refine g_iconst E 0 dL_isSample_182 (by decide) ?_
  refine g_callVi0 E gc_X4_count ml_L_8 (t_X4_count d x a b c e 0 p q S T h t y ss ) rfl rfl (ci := 4) 0 rfl rfl rfl rfl (ok_le rfl) ⟨ok_le rfl, ok_le rfl, ok_le rfl, ok_le rfl⟩ rfl rfl dL_isSample_183 ?_
  refine g_top (b := S.1 21) (count_0 _ _ _) ?_
  refine g_istore E (lv' := [(17, .int (S.1 21)), (16, .int v21_), (15, .int v), (0, .ref (x 0)), (1, .int x1), (2, .int y1), (3, .int (S.1 9)), (4, .int (x1 - ((S.1 7) / 16))), (5, .int (y1 - ((S.1 8) / 16))), (6, .int v6_), (7, .int (S.1 12)), (8, .int (S.1 13)), (9, .int (S.1 16)), (10, .int (S.1 17)), (11, .int (S.1 20)), (12, .int (S.1 7)), (13, .int (S.1 8)), (14, .int was)]) dL_isSample_186 (by decide) rfl ?_
  refine g_aload_n E 3 dL_isSample_188 rfl rfl ?_
  refine g_iload_n E 4 dL_isSample_189 rfl rfl ?_
  refine g_iload_n E 5 dL_isSample_190 rfl rfl ?_
  refine g_callVi E (wr := []) gc_X4_sample ml_L_32 (t_X4_sample d x a b c e x1 y1 p q S T h t y ss hy hu) rfl (List.append_nil _).symm (ci := 4) 0 rfl rfl rfl rfl (ok_le rfl) ⟨ok_le rfl, ok_le rfl, ok_le rfl, ok_le rfl⟩ rfl rfl dL_isSample_191 ?_
  rintro v_ u_ ⟨rfl, ⟨p1, rfl⟩⟩
  refine g_eq (ws' := XW d (x, a, b, c, e) p1 q (c_X4_sample_1 x1 y1 S y) T h t (c_X4_sample_y x1 y1 S y) ss) (List.append_nil _) ?_
  obtain ⟨S23_, hS23_⟩ : ∃ z, c_X4_sample_1 x1 y1 S y = z := ⟨_, rfl⟩
  rw [hS23_]
  obtain ⟨S24_, hS24_⟩ : ∃ z, c_X4_sample_y x1 y1 S y = z := ⟨_, rfl⟩
  rw [hS24_]
  refine g_nm (fun v25_ hv25_ => ?_)
  refine g_iload E 1 dL_isSample_194 rfl ?_
  refine g_icmpne E 254 dL_isSample_196 (by decide) (fun c_196 => ?_) (fun c_196 => ?_)
  · skip
    refine g_iconst E 0 dL_isSample_254 (by decide) ?_
    subst hv25_
    subst hS24_
    subst hS23_
    subst hv21_
    subst hv6_
    subst hv5_
    subst hv4_
    exact RET 255 _ 0 _ dL_isSample_255 rfl (by rw [r_L_isSample_at171, if_neg c_196]) ⟨p1, (by rw [c_L_isSample_1_at171, c_L_isSample_y_at171])⟩
  · skip
    refine g_aload_n E 3 dL_isSample_199 rfl rfl ?_
    refine g_iconst E 0 dL_isSample_200 (by decide) ?_
    refine g_callVi0 E gc_X4_count ml_L_8 (t_X4_count d x a b c e 0 p1 q S23_ T h t S24_ ss ) rfl rfl (ci := 4) 0 rfl rfl rfl rfl (ok_le rfl) ⟨ok_le rfl, ok_le rfl, ok_le rfl, ok_le rfl⟩ rfl rfl dL_isSample_201 ?_
    refine g_top (b := S23_.1 21) (count_0 _ _ _) ?_
    refine g_iload E 0 dL_isSample_204 rfl ?_
    refine g_iconst E 1 dL_isSample_206 (by decide) ?_
    refine g_iadd E dL_isSample_207 ?_
    refine g_icmpne E 254 dL_isSample_208 (by decide) (fun c_208 => ?_) (fun c_208 => ?_)
    · skip
      refine g_iconst E 0 dL_isSample_254 (by decide) ?_
      subst hv25_
      subst hS24_
      subst hS23_
      subst hv21_
      subst hv6_
      subst hv5_
      subst hv4_
      exact RET 255 _ 0 _ dL_isSample_255 rfl (by rw [r_L_isSample_at171, if_pos c_196, if_neg c_208]) ⟨p1, (by rw [c_L_isSample_1_at171, c_L_isSample_y_at171])⟩
    · skip
      refine g_aload_n E 3 dL_isSample_211 rfl rfl ?_
      refine g_iconst E 3 dL_isSample_212 (by decide) ?_
      refine g_callVi0 E gc_X4_count ml_L_8 (t_X4_count d x a b c e 3 p1 q S23_ T h t S24_ ss ) rfl rfl (ci := 4) 0 rfl rfl rfl rfl (ok_le rfl) ⟨ok_le rfl, ok_le rfl, ok_le rfl, ok_le rfl⟩ rfl rfl dL_isSample_213 ?_
      refine g_top (b := S23_.1 13) (count_3 _ _ _) ?_
      refine g_iload E 11 dL_isSample_216 rfl ?_
      refine g_ifle E 228 dL_isSample_218 (by decide) (fun c_218 => ?_) (fun c_218 => ?_)
      · skip
        refine g_iconst E 0 dL_isSample_228 (by decide) ?_
        refine g_icmpne E 254 dL_isSample_229 (by decide) (fun c_229 => ?_) (fun c_229 => ?_)
        · skip
          refine g_iconst E 0 dL_isSample_254 (by decide) ?_
          subst hv25_
          subst hS24_
          subst hS23_
          subst hv21_
          subst hv6_
          subst hv5_
          subst hv4_
          exact RET 255 _ 0 _ dL_isSample_255 rfl (by rw [r_L_isSample_at171, if_pos c_196, if_pos c_208, if_neg c_218, if_neg c_229]) ⟨p1, (by rw [c_L_isSample_1_at171, c_L_isSample_y_at171])⟩
        · skip
          refine g_iload E 1 dL_isSample_232 rfl ?_
          refine g_sipush E 1000 dL_isSample_234 (by decide) ?_
          refine g_aload_n E 3 dL_isSample_237 rfl rfl ?_
          refine g_iconst E 0 dL_isSample_238 (by decide) ?_
          refine g_iconst E 1 dL_isSample_239 (by decide) ?_
          refine g_callVi0 E gc_X4_of ml_L_14 (t_X4_of d x a b c e 0 1 p1 q S23_ T h t S24_ ss ) rfl rfl (ci := 4) 0 rfl rfl rfl rfl (ok_le rfl) ⟨ok_le rfl, ok_le rfl, ok_le rfl, ok_le rfl⟩ rfl rfl dL_isSample_240 ?_
          refine g_top (b := (S23_.1 14) + 100) (of_0_1 _) ?_
          refine g_imul E dL_isSample_243 ?_
          refine g_aload_n E 3 dL_isSample_244 rfl rfl ?_
          refine g_iconst E 1 dL_isSample_245 (by decide) ?_
          refine g_iconst E 1 dL_isSample_246 (by decide) ?_
          refine g_callVi0 E gc_X4_of ml_L_14 (t_X4_of d x a b c e 1 1 p1 q S23_ T h t S24_ ss ) rfl rfl (ci := 4) 0 rfl rfl rfl rfl (ok_le rfl) ⟨ok_le rfl, ok_le rfl, ok_le rfl, ok_le rfl⟩ rfl rfl dL_isSample_247 ?_
          refine g_top (b := (S23_.1 15) + 100) (of_1_1 _) ?_
          refine g_iadd E dL_isSample_250 ?_
          refine g_icmpeq E 256 dL_isSample_251 (by decide) (fun c_251 => ?_) (fun c_251 => ?_)
          · skip
            refine g_aload_n E 3 dL_isSample_256 rfl rfl ?_
            refine g_iconst E 0 dL_isSample_257 (by decide) ?_
            refine g_iconst E 1 dL_isSample_258 (by decide) ?_
            refine g_callVi0 E gc_X4_of ml_L_14 (t_X4_of d x a b c e 0 1 p1 q S23_ T h t S24_ ss ) rfl rfl (ci := 4) 0 rfl rfl rfl rfl (ok_le rfl) ⟨ok_le rfl, ok_le rfl, ok_le rfl, ok_le rfl⟩ rfl rfl dL_isSample_259 ?_
            refine g_top (b := (S23_.1 14) + 100) (of_0_1 _) ?_
            refine g_bipush E 100 dL_isSample_262 (by decide) ?_
            refine g_isub E dL_isSample_264 ?_
            refine g_istore E (lv' := [(18, .int (((S23_.1 14) + 100) - 100)), (17, .int (S.1 21)), (16, .int v21_), (15, .int v), (0, .ref (x 0)), (1, .int x1), (2, .int y1), (3, .int (S.1 9)), (4, .int (x1 - ((S.1 7) / 16))), (5, .int (y1 - ((S.1 8) / 16))), (6, .int v6_), (7, .int (S.1 12)), (8, .int (S.1 13)), (9, .int (S.1 16)), (10, .int (S.1 17)), (11, .int (S.1 20)), (12, .int (S.1 7)), (13, .int (S.1 8)), (14, .int was)]) dL_isSample_265 (by decide) rfl ?_
            refine g_aload_n E 4 dL_isSample_267 rfl rfl ?_
            refine g_iconst E 1 dL_isSample_268 (by decide) ?_
            refine g_iconst E 1 dL_isSample_269 (by decide) ?_
            refine g_callVi0 E gc_X4_of ml_L_14 (t_X4_of d x a b c e 1 1 p1 q S23_ T h t S24_ ss ) rfl rfl (ci := 4) 0 rfl rfl rfl rfl (ok_le rfl) ⟨ok_le rfl, ok_le rfl, ok_le rfl, ok_le rfl⟩ rfl rfl dL_isSample_270 ?_
            refine g_top (b := (S23_.1 15) + 100) (of_1_1 _) ?_
            refine g_bipush E 100 dL_isSample_273 (by decide) ?_
            refine g_isub E dL_isSample_275 ?_
            refine g_istore E (lv' := [(19, .int (((S23_.1 15) + 100) - 100)), (18, .int (((S23_.1 14) + 100) - 100)), (17, .int (S.1 21)), (16, .int v21_), (15, .int v), (0, .ref (x 0)), (1, .int x1), (2, .int y1), (3, .int (S.1 9)), (4, .int (x1 - ((S.1 7) / 16))), (5, .int (y1 - ((S.1 8) / 16))), (6, .int v6_), (7, .int (S.1 12)), (8, .int (S.1 13)), (9, .int (S.1 16)), (10, .int (S.1 17)), (11, .int (S.1 20)), (12, .int (S.1 7)), (13, .int (S.1 8)), (14, .int was)]) dL_isSample_276 (by decide) rfl ?_
            refine g_iload E 11 dL_isSample_278 rfl ?_
            refine g_iload_n E 8 dL_isSample_280 rfl rfl ?_
            refine g_icmpgt E 527 dL_isSample_281 (by decide) (fun c_281 => ?_) (fun c_281 => ?_)
            · skip
              refine g_iload E 13 dL_isSample_527 rfl ?_
              refine g_ifne E 567 dL_isSample_529 (by decide) (fun c_529 => ?_) (fun c_529 => ?_)
              · skip
                refine g_iconst E 0 dL_isSample_567 (by decide) ?_
                refine g_lvs (lv' := [(0, .ref (x 0)), (1, .int x1), (2, .int y1), (3, .int (S.1 9)), (4, .int (x1 - ((S.1 7) / 16))), (5, .int (y1 - ((S.1 8) / 16))), (9, .int (S.1 16)), (10, .int (S.1 17)), (11, .int (S.1 20)), (12, .int (S.1 7)), (13, .int (S.1 8)), (18, .int (((S23_.1 14) + 100) - 100)), (19, .int (((S23_.1 15) + 100) - 100))]) [5, 6, 7, 8, 9, 10, 14, 15, 16, 17, 18, 1, 0] rfl ?_
                subst hv25_
                subst hS24_
                subst hS23_
                subst hv21_
                subst hv6_
                subst hv5_
                subst hv4_
                exact s_L_isSample_568 d x a b c e x1 y1 p q S T h t y ss hy hu hz 0 p1 (by first | exact Or.inl rfl | exact Or.inr rfl | assumption) E (fun pc_ lv_ v_ u_ h1_ h2_ h3_ h4_ => RET pc_ lv_ v_ u_ h1_ h2_ (h3_.trans (by rw [r_L_isSample_at171, if_pos c_196, if_pos c_208, if_neg c_218, if_pos c_229, if_pos c_251, if_pos c_281, if_neg c_529])) (h4_.imp (fun _ h5_ => h5_.trans (by rw [c_L_isSample_1_at171, c_L_isSample_y_at171]))))
              · skip
                refine g_iload E 4 dL_isSample_532 rfl ?_
                refine g_ifeq E 544 dL_isSample_534 (by decide) (fun c_534 => ?_) (fun c_534 => ?_)
                · skip
                  refine g_iconst E 0 dL_isSample_544 (by decide) ?_
                  refine g_aload_n E 5 dL_isSample_545 rfl rfl ?_
                  refine g_bipush E 15 dL_isSample_546 (by decide) ?_
                  refine g_callVi0 E gc_X4_count ml_L_8 (t_X4_count d x a b c e 15 p1 q S23_ T h t S24_ ss ) rfl rfl (ci := 4) 0 rfl rfl rfl rfl (ok_le rfl) ⟨ok_le rfl, ok_le rfl, ok_le rfl, ok_le rfl⟩ rfl rfl dL_isSample_548 ?_
                  refine g_top (b := S23_.2.1 5) (count_15 _ _ _) ?_
                  refine g_icmplt E 567 dL_isSample_551 (by decide) (fun c_551 => ?_) (fun c_551 => ?_)
                  · skip
                    refine g_iconst E 0 dL_isSample_567 (by decide) ?_
                    refine g_lvs (lv' := [(0, .ref (x 0)), (1, .int x1), (2, .int y1), (3, .int (S.1 9)), (4, .int (x1 - ((S.1 7) / 16))), (5, .int (y1 - ((S.1 8) / 16))), (9, .int (S.1 16)), (10, .int (S.1 17)), (11, .int (S.1 20)), (12, .int (S.1 7)), (13, .int (S.1 8)), (18, .int (((S23_.1 14) + 100) - 100)), (19, .int (((S23_.1 15) + 100) - 100))]) [5, 6, 7, 8, 9, 10, 14, 15, 16, 17, 18, 1, 0] rfl ?_
                    subst hv25_
                    subst hS24_
                    subst hS23_
                    subst hv21_
                    subst hv6_
                    subst hv5_
                    subst hv4_
                    exact s_L_isSample_568 d x a b c e x1 y1 p q S T h t y ss hy hu hz 0 p1 (by first | exact Or.inl rfl | exact Or.inr rfl | assumption) E (fun pc_ lv_ v_ u_ h1_ h2_ h3_ h4_ => RET pc_ lv_ v_ u_ h1_ h2_ (h3_.trans (by rw [r_L_isSample_at171, if_pos c_196, if_pos c_208, if_neg c_218, if_pos c_229, if_pos c_251, if_pos c_281, if_pos c_529, if_pos c_534, if_pos c_551])) (h4_.imp (fun _ h5_ => h5_.trans (by rw [c_L_isSample_1_at171, c_L_isSample_y_at171]))))
                  · skip
                    refine g_iload E 11 dL_isSample_554 rfl ?_
                    refine g_iload_n E 8 dL_isSample_556 rfl rfl ?_
                    refine g_bipush E 8 dL_isSample_557 (by decide) ?_
                    refine g_iadd E dL_isSample_559 ?_
                    refine g_icmpgt E 567 dL_isSample_560 (by decide) (fun c_560 => ?_) (fun c_560 => ?_)
                    · skip
                      refine g_iconst E 0 dL_isSample_567 (by decide) ?_
                      refine g_lvs (lv' := [(0, .ref (x 0)), (1, .int x1), (2, .int y1), (3, .int (S.1 9)), (4, .int (x1 - ((S.1 7) / 16))), (5, .int (y1 - ((S.1 8) / 16))), (9, .int (S.1 16)), (10, .int (S.1 17)), (11, .int (S.1 20)), (12, .int (S.1 7)), (13, .int (S.1 8)), (18, .int (((S23_.1 14) + 100) - 100)), (19, .int (((S23_.1 15) + 100) - 100))]) [5, 6, 7, 8, 9, 10, 14, 15, 16, 17, 18, 1, 0] rfl ?_
                      subst hv25_
                      subst hS24_
                      subst hS23_
                      subst hv21_
                      subst hv6_
                      subst hv5_
                      subst hv4_
                      exact s_L_isSample_568 d x a b c e x1 y1 p q S T h t y ss hy hu hz 0 p1 (by first | exact Or.inl rfl | exact Or.inr rfl | assumption) E (fun pc_ lv_ v_ u_ h1_ h2_ h3_ h4_ => RET pc_ lv_ v_ u_ h1_ h2_ (h3_.trans (by rw [r_L_isSample_at171, if_pos c_196, if_pos c_208, if_neg c_218, if_pos c_229, if_pos c_251, if_pos c_281, if_pos c_529, if_pos c_534, if_neg c_551, if_pos c_560])) (h4_.imp (fun _ h5_ => h5_.trans (by rw [c_L_isSample_1_at171, c_L_isSample_y_at171]))))
                    · skip
                      refine g_iconst E 1 dL_isSample_563 (by decide) ?_
                      refine g_goto E 568 dL_isSample_564 (by decide) ?_
                      refine g_lvs (lv' := [(0, .ref (x 0)), (1, .int x1), (2, .int y1), (3, .int (S.1 9)), (4, .int (x1 - ((S.1 7) / 16))), (5, .int (y1 - ((S.1 8) / 16))), (9, .int (S.1 16)), (10, .int (S.1 17)), (11, .int (S.1 20)), (12, .int (S.1 7)), (13, .int (S.1 8)), (18, .int (((S23_.1 14) + 100) - 100)), (19, .int (((S23_.1 15) + 100) - 100))]) [5, 6, 7, 8, 9, 10, 14, 15, 16, 17, 18, 1, 0] rfl ?_
                      subst hv25_
                      subst hS24_
                      subst hS23_
                      subst hv21_
                      subst hv6_
                      subst hv5_
                      subst hv4_
                      exact s_L_isSample_568 d x a b c e x1 y1 p q S T h t y ss hy hu hz 1 p1 (by first | exact Or.inl rfl | exact Or.inr rfl | assumption) E (fun pc_ lv_ v_ u_ h1_ h2_ h3_ h4_ => RET pc_ lv_ v_ u_ h1_ h2_ (h3_.trans (by rw [r_L_isSample_at171, if_pos c_196, if_pos c_208, if_neg c_218, if_pos c_229, if_pos c_251, if_pos c_281, if_pos c_529, if_pos c_534, if_neg c_551, if_neg c_560])) (h4_.imp (fun _ h5_ => h5_.trans (by rw [c_L_isSample_1_at171, c_L_isSample_y_at171]))))
                · skip
                  refine g_iload E 12 dL_isSample_537 rfl ?_
                  refine g_iconst E 1 dL_isSample_539 (by decide) ?_
                  refine g_iadd E dL_isSample_540 ?_
                  refine g_goto E 545 dL_isSample_541 (by decide) ?_
                  refine g_aload_n E 5 dL_isSample_545 rfl rfl ?_
                  refine g_bipush E 15 dL_isSample_546 (by decide) ?_
                  refine g_callVi0 E gc_X4_count ml_L_8 (t_X4_count d x a b c e 15 p1 q S23_ T h t S24_ ss ) rfl rfl (ci := 4) 0 rfl rfl rfl rfl (ok_le rfl) ⟨ok_le rfl, ok_le rfl, ok_le rfl, ok_le rfl⟩ rfl rfl dL_isSample_548 ?_
                  refine g_top (b := S23_.2.1 5) (count_15 _ _ _) ?_
                  refine g_icmplt E 567 dL_isSample_551 (by decide) (fun c_551 => ?_) (fun c_551 => ?_)
                  · skip
                    refine g_iconst E 0 dL_isSample_567 (by decide) ?_
                    refine g_lvs (lv' := [(0, .ref (x 0)), (1, .int x1), (2, .int y1), (3, .int (S.1 9)), (4, .int (x1 - ((S.1 7) / 16))), (5, .int (y1 - ((S.1 8) / 16))), (9, .int (S.1 16)), (10, .int (S.1 17)), (11, .int (S.1 20)), (12, .int (S.1 7)), (13, .int (S.1 8)), (18, .int (((S23_.1 14) + 100) - 100)), (19, .int (((S23_.1 15) + 100) - 100))]) [5, 6, 7, 8, 9, 10, 14, 15, 16, 17, 18, 1, 0] rfl ?_
                    subst hv25_
                    subst hS24_
                    subst hS23_
                    subst hv21_
                    subst hv6_
                    subst hv5_
                    subst hv4_
                    exact s_L_isSample_568 d x a b c e x1 y1 p q S T h t y ss hy hu hz 0 p1 (by first | exact Or.inl rfl | exact Or.inr rfl | assumption) E (fun pc_ lv_ v_ u_ h1_ h2_ h3_ h4_ => RET pc_ lv_ v_ u_ h1_ h2_ (h3_.trans (by rw [r_L_isSample_at171, if_pos c_196, if_pos c_208, if_neg c_218, if_pos c_229, if_pos c_251, if_pos c_281, if_pos c_529, if_neg c_534, if_pos c_551])) (h4_.imp (fun _ h5_ => h5_.trans (by rw [c_L_isSample_1_at171, c_L_isSample_y_at171]))))
                  · skip
                    refine g_iload E 11 dL_isSample_554 rfl ?_
                    refine g_iload_n E 8 dL_isSample_556 rfl rfl ?_
                    refine g_bipush E 8 dL_isSample_557 (by decide) ?_
                    refine g_iadd E dL_isSample_559 ?_
                    refine g_icmpgt E 567 dL_isSample_560 (by decide) (fun c_560 => ?_) (fun c_560 => ?_)
                    · skip
                      refine g_iconst E 0 dL_isSample_567 (by decide) ?_
                      refine g_lvs (lv' := [(0, .ref (x 0)), (1, .int x1), (2, .int y1), (3, .int (S.1 9)), (4, .int (x1 - ((S.1 7) / 16))), (5, .int (y1 - ((S.1 8) / 16))), (9, .int (S.1 16)), (10, .int (S.1 17)), (11, .int (S.1 20)), (12, .int (S.1 7)), (13, .int (S.1 8)), (18, .int (((S23_.1 14) + 100) - 100)), (19, .int (((S23_.1 15) + 100) - 100))]) [5, 6, 7, 8, 9, 10, 14, 15, 16, 17, 18, 1, 0] rfl ?_
                      subst hv25_
                      subst hS24_
                      subst hS23_
                      subst hv21_
                      subst hv6_
                      subst hv5_
                      subst hv4_
                      exact s_L_isSample_568 d x a b c e x1 y1 p q S T h t y ss hy hu hz 0 p1 (by first | exact Or.inl rfl | exact Or.inr rfl | assumption) E (fun pc_ lv_ v_ u_ h1_ h2_ h3_ h4_ => RET pc_ lv_ v_ u_ h1_ h2_ (h3_.trans (by rw [r_L_isSample_at171, if_pos c_196, if_pos c_208, if_neg c_218, if_pos c_229, if_pos c_251, if_pos c_281, if_pos c_529, if_neg c_534, if_neg c_551, if_pos c_560])) (h4_.imp (fun _ h5_ => h5_.trans (by rw [c_L_isSample_1_at171, c_L_isSample_y_at171]))))
                    · skip
                      refine g_iconst E 1 dL_isSample_563 (by decide) ?_
                      refine g_goto E 568 dL_isSample_564 (by decide) ?_
                      refine g_lvs (lv' := [(0, .ref (x 0)), (1, .int x1), (2, .int y1), (3, .int (S.1 9)), (4, .int (x1 - ((S.1 7) / 16))), (5, .int (y1 - ((S.1 8) / 16))), (9, .int (S.1 16)), (10, .int (S.1 17)), (11, .int (S.1 20)), (12, .int (S.1 7)), (13, .int (S.1 8)), (18, .int (((S23_.1 14) + 100) - 100)), (19, .int (((S23_.1 15) + 100) - 100))]) [5, 6, 7, 8, 9, 10, 14, 15, 16, 17, 18, 1, 0] rfl ?_
                      subst hv25_
                      subst hS24_
                      subst hS23_
                      subst hv21_
                      subst hv6_
                      subst hv5_
                      subst hv4_
                      exact s_L_isSample_568 d x a b c e x1 y1 p q S T h t y ss hy hu hz 1 p1 (by first | exact Or.inl rfl | exact Or.inr rfl | assumption) E (fun pc_ lv_ v_ u_ h1_ h2_ h3_ h4_ => RET pc_ lv_ v_ u_ h1_ h2_ (h3_.trans (by rw [r_L_isSample_at171, if_pos c_196, if_pos c_208, if_neg c_218, if_pos c_229, if_pos c_251, if_pos c_281, if_pos c_529, if_neg c_534, if_neg c_551, if_neg c_560])) (h4_.imp (fun _ h5_ => h5_.trans (by rw [c_L_isSample_1_at171, c_L_isSample_y_at171]))))
            · skip
              refine g_iload E 1 dL_isSample_284 rfl ?_
              refine g_ifne E 350 dL_isSample_286 (by decide) (fun c_286 => ?_) (fun c_286 => ?_)
              · skip
                refine g_iconst E 0 dL_isSample_350 (by decide) ?_
                refine g_lvs (lv' := [(0, .ref (x 0)), (1, .int x1), (2, .int y1), (3, .int (S.1 9)), (6, .int v6_), (8, .int (S.1 13)), (11, .int (S.1 20)), (12, .int (S.1 7)), (13, .int (S.1 8))]) [5, 6, 7, 8, 11, 13, 16, 17, 18] rfl ?_
                subst hv25_
                subst hS24_
                subst hS23_
                subst hv21_
                subst hv6_
                subst hv5_
                subst hv4_
                exact s_L_isSample_351 d x a b c e x1 y1 p q S T h t y ss hy hu hz 0 p1 (by first | exact Or.inl rfl | exact Or.inr rfl | assumption) E (fun pc_ lv_ v_ u_ h1_ h2_ h3_ h4_ => RET pc_ lv_ v_ u_ h1_ h2_ (h3_.trans (by rw [r_L_isSample_at171, if_pos c_196, if_pos c_208, if_neg c_218, if_pos c_229, if_pos c_251, if_neg c_281, if_neg c_286])) (h4_.imp (fun _ h5_ => h5_.trans (by rw [c_L_isSample_1_at171, c_L_isSample_y_at171]))))
              · skip
                refine g_iload E 0 dL_isSample_289 rfl ?_
                refine g_ifne E 350 dL_isSample_291 (by decide) (fun c_291 => ?_) (fun c_291 => ?_)
                · skip
                  refine g_iconst E 0 dL_isSample_350 (by decide) ?_
                  refine g_lvs (lv' := [(0, .ref (x 0)), (1, .int x1), (2, .int y1), (3, .int (S.1 9)), (6, .int v6_), (8, .int (S.1 13)), (11, .int (S.1 20)), (12, .int (S.1 7)), (13, .int (S.1 8))]) [5, 6, 7, 8, 11, 13, 16, 17, 18] rfl ?_
                  subst hv25_
                  subst hS24_
                  subst hS23_
                  subst hv21_
                  subst hv6_
                  subst hv5_
                  subst hv4_
                  exact s_L_isSample_351 d x a b c e x1 y1 p q S T h t y ss hy hu hz 0 p1 (by first | exact Or.inl rfl | exact Or.inr rfl | assumption) E (fun pc_ lv_ v_ u_ h1_ h2_ h3_ h4_ => RET pc_ lv_ v_ u_ h1_ h2_ (h3_.trans (by rw [r_L_isSample_at171, if_pos c_196, if_pos c_208, if_neg c_218, if_pos c_229, if_pos c_251, if_neg c_281, if_pos c_286, if_neg c_291])) (h4_.imp (fun _ h5_ => h5_.trans (by rw [c_L_isSample_1_at171, c_L_isSample_y_at171]))))
                · skip
                  refine g_aload_n E 5 dL_isSample_294 rfl rfl ?_
                  refine g_iconst E 4 dL_isSample_295 (by decide) ?_
                  refine g_callVi0 E gc_X4_count ml_L_8 (t_X4_count d x a b c e 4 p1 q S23_ T h t S24_ ss ) rfl rfl (ci := 4) 0 rfl rfl rfl rfl (ok_le rfl) ⟨ok_le rfl, ok_le rfl, ok_le rfl, ok_le rfl⟩ rfl rfl dL_isSample_296 ?_
                  refine g_top (b := S23_.1 16) (count_4 _ _ _) ?_
                  refine g_iload E 14 dL_isSample_299 rfl ?_
                  refine g_iload E 19 dL_isSample_301 rfl ?_
                  refine g_ifeq E 310 dL_isSample_303 (by decide) (fun c_303 => ?_) (fun c_303 => ?_)
                  · skip
                    refine g_iconst E 0 dL_isSample_310 (by decide) ?_
                    refine g_iadd E dL_isSample_311 ?_
                    refine g_icmpne E 350 dL_isSample_312 (by decide) (fun c_312 => ?_) (fun c_312 => ?_)
                    · skip
                      refine g_iconst E 0 dL_isSample_350 (by decide) ?_
                      refine g_lvs (lv' := [(0, .ref (x 0)), (1, .int x1), (2, .int y1), (3, .int (S.1 9)), (6, .int v6_), (8, .int (S.1 13)), (11, .int (S.1 20)), (12, .int (S.1 7)), (13, .int (S.1 8))]) [5, 6, 7, 8, 11, 13, 16, 17, 18] rfl ?_
                      subst hv25_
                      subst hS24_
                      subst hS23_
                      subst hv21_
                      subst hv6_
                      subst hv5_
                      subst hv4_
                      exact s_L_isSample_351 d x a b c e x1 y1 p q S T h t y ss hy hu hz 0 p1 (by first | exact Or.inl rfl | exact Or.inr rfl | assumption) E (fun pc_ lv_ v_ u_ h1_ h2_ h3_ h4_ => RET pc_ lv_ v_ u_ h1_ h2_ (h3_.trans (by rw [r_L_isSample_at171, if_pos c_196, if_pos c_208, if_neg c_218, if_pos c_229, if_pos c_251, if_neg c_281, if_pos c_286, if_pos c_291, if_pos c_303, if_neg c_312])) (h4_.imp (fun _ h5_ => h5_.trans (by rw [c_L_isSample_1_at171, c_L_isSample_y_at171]))))
                    · skip
                      refine g_aload_n E 5 dL_isSample_315 rfl rfl ?_
                      refine g_iconst E 5 dL_isSample_316 (by decide) ?_
                      refine g_callVi0 E gc_X4_count ml_L_8 (t_X4_count d x a b c e 5 p1 q S23_ T h t S24_ ss ) rfl rfl (ci := 4) 0 rfl rfl rfl rfl (ok_le rfl) ⟨ok_le rfl, ok_le rfl, ok_le rfl, ok_le rfl⟩ rfl rfl dL_isSample_317 ?_
                      refine g_top (b := S23_.1 17) (count_5 _ _ _) ?_
                      refine g_iload E 15 dL_isSample_320 rfl ?_
                      refine g_icmpne E 350 dL_isSample_322 (by decide) (fun c_322 => ?_) (fun c_322 => ?_)
                      · skip
                        refine g_iconst E 0 dL_isSample_350 (by decide) ?_
                        refine g_lvs (lv' := [(0, .ref (x 0)), (1, .int x1), (2, .int y1), (3, .int (S.1 9)), (6, .int v6_), (8, .int (S.1 13)), (11, .int (S.1 20)), (12, .int (S.1 7)), (13, .int (S.1 8))]) [5, 6, 7, 8, 11, 13, 16, 17, 18] rfl ?_
                        subst hv25_
                        subst hS24_
                        subst hS23_
                        subst hv21_
                        subst hv6_
                        subst hv5_
                        subst hv4_
                        exact s_L_isSample_351 d x a b c e x1 y1 p q S T h t y ss hy hu hz 0 p1 (by first | exact Or.inl rfl | exact Or.inr rfl | assumption) E (fun pc_ lv_ v_ u_ h1_ h2_ h3_ h4_ => RET pc_ lv_ v_ u_ h1_ h2_ (h3_.trans (by rw [r_L_isSample_at171, if_pos c_196, if_pos c_208, if_neg c_218, if_pos c_229, if_pos c_251, if_neg c_281, if_pos c_286, if_pos c_291, if_pos c_303, if_pos c_312, if_neg c_322])) (h4_.imp (fun _ h5_ => h5_.trans (by rw [c_L_isSample_1_at171, c_L_isSample_y_at171]))))
                      · skip
                        refine g_aload_n E 5 dL_isSample_325 rfl rfl ?_
                        refine g_iconst E 2 dL_isSample_326 (by decide) ?_
                        refine g_callVi0 E gc_X4_count ml_L_8 (t_X4_count d x a b c e 2 p1 q S23_ T h t S24_ ss ) rfl rfl (ci := 4) 0 rfl rfl rfl rfl (ok_le rfl) ⟨ok_le rfl, ok_le rfl, ok_le rfl, ok_le rfl⟩ rfl rfl dL_isSample_327 ?_
                        refine g_top (b := S23_.1 12) (count_2 _ _ _) ?_
                        refine g_iload E 4 dL_isSample_330 rfl ?_
                        refine g_ifeq E 342 dL_isSample_332 (by decide) (fun c_332 => ?_) (fun c_332 => ?_)
                        · skip
                          refine g_iconst E 0 dL_isSample_342 (by decide) ?_
                          refine g_icmpne E 350 dL_isSample_343 (by decide) (fun c_343 => ?_) (fun c_343 => ?_)
                          · skip
                            refine g_iconst E 0 dL_isSample_350 (by decide) ?_
                            refine g_lvs (lv' := [(0, .ref (x 0)), (1, .int x1), (2, .int y1), (3, .int (S.1 9)), (6, .int v6_), (8, .int (S.1 13)), (11, .int (S.1 20)), (12, .int (S.1 7)), (13, .int (S.1 8))]) [5, 6, 7, 8, 11, 13, 16, 17, 18] rfl ?_
                            subst hv25_
                            subst hS24_
                            subst hS23_
                            subst hv21_
                            subst hv6_
                            subst hv5_
                            subst hv4_
                            exact s_L_isSample_351 d x a b c e x1 y1 p q S T h t y ss hy hu hz 0 p1 (by first | exact Or.inl rfl | exact Or.inr rfl | assumption) E (fun pc_ lv_ v_ u_ h1_ h2_ h3_ h4_ => RET pc_ lv_ v_ u_ h1_ h2_ (h3_.trans (by rw [r_L_isSample_at171, if_pos c_196, if_pos c_208, if_neg c_218, if_pos c_229, if_pos c_251, if_neg c_281, if_pos c_286, if_pos c_291, if_pos c_303, if_pos c_312, if_pos c_322, if_pos c_332, if_neg c_343])) (h4_.imp (fun _ h5_ => h5_.trans (by rw [c_L_isSample_1_at171, c_L_isSample_y_at171]))))
                          · skip
                            refine g_iconst E 1 dL_isSample_346 (by decide) ?_
                            refine g_goto E 351 dL_isSample_347 (by decide) ?_
                            refine g_lvs (lv' := [(0, .ref (x 0)), (1, .int x1), (2, .int y1), (3, .int (S.1 9)), (6, .int v6_), (8, .int (S.1 13)), (11, .int (S.1 20)), (12, .int (S.1 7)), (13, .int (S.1 8))]) [5, 6, 7, 8, 11, 13, 16, 17, 18] rfl ?_
                            subst hv25_
                            subst hS24_
                            subst hS23_
                            subst hv21_
                            subst hv6_
                            subst hv5_
                            subst hv4_
                            exact s_L_isSample_351 d x a b c e x1 y1 p q S T h t y ss hy hu hz 1 p1 (by first | exact Or.inl rfl | exact Or.inr rfl | assumption) E (fun pc_ lv_ v_ u_ h1_ h2_ h3_ h4_ => RET pc_ lv_ v_ u_ h1_ h2_ (h3_.trans (by rw [r_L_isSample_at171, if_pos c_196, if_pos c_208, if_neg c_218, if_pos c_229, if_pos c_251, if_neg c_281, if_pos c_286, if_pos c_291, if_pos c_303, if_pos c_312, if_pos c_322, if_pos c_332, if_pos c_343])) (h4_.imp (fun _ h5_ => h5_.trans (by rw [c_L_isSample_1_at171, c_L_isSample_y_at171]))))
                        · skip
                          refine g_iload E 12 dL_isSample_335 rfl ?_
                          refine g_iconst E 1 dL_isSample_337 (by decide) ?_
                          refine g_iadd E dL_isSample_338 ?_
                          refine g_goto E 343 dL_isSample_339 (by decide) ?_
                          refine g_icmpne E 350 dL_isSample_343 (by decide) (fun c_343 => ?_) (fun c_343 => ?_)
                          · skip
                            refine g_iconst E 0 dL_isSample_350 (by decide) ?_
                            refine g_lvs (lv' := [(0, .ref (x 0)), (1, .int x1), (2, .int y1), (3, .int (S.1 9)), (6, .int v6_), (8, .int (S.1 13)), (11, .int (S.1 20)), (12, .int (S.1 7)), (13, .int (S.1 8))]) [5, 6, 7, 8, 11, 13, 16, 17, 18] rfl ?_
                            subst hv25_
                            subst hS24_
                            subst hS23_
                            subst hv21_
                            subst hv6_
                            subst hv5_
                            subst hv4_
                            exact s_L_isSample_351 d x a b c e x1 y1 p q S T h t y ss hy hu hz 0 p1 (by first | exact Or.inl rfl | exact Or.inr rfl | assumption) E (fun pc_ lv_ v_ u_ h1_ h2_ h3_ h4_ => RET pc_ lv_ v_ u_ h1_ h2_ (h3_.trans (by rw [r_L_isSample_at171, if_pos c_196, if_pos c_208, if_neg c_218, if_pos c_229, if_pos c_251, if_neg c_281, if_pos c_286, if_pos c_291, if_pos c_303, if_pos c_312, if_pos c_322, if_neg c_332, if_neg c_343])) (h4_.imp (fun _ h5_ => h5_.trans (by rw [c_L_isSample_1_at171, c_L_isSample_y_at171]))))
                          · skip
                            refine g_iconst E 1 dL_isSample_346 (by decide) ?_
                            refine g_goto E 351 dL_isSample_347 (by decide) ?_
                            refine g_lvs (lv' := [(0, .ref (x 0)), (1, .int x1), (2, .int y1), (3, .int (S.1 9)), (6, .int v6_), (8, .int (S.1 13)), (11, .int (S.1 20)), (12, .int (S.1 7)), (13, .int (S.1 8))]) [5, 6, 7, 8, 11, 13, 16, 17, 18] rfl ?_
                            subst hv25_
                            subst hS24_
                            subst hS23_
                            subst hv21_
                            subst hv6_
                            subst hv5_
                            subst hv4_
                            exact s_L_isSample_351 d x a b c e x1 y1 p q S T h t y ss hy hu hz 1 p1 (by first | exact Or.inl rfl | exact Or.inr rfl | assumption) E (fun pc_ lv_ v_ u_ h1_ h2_ h3_ h4_ => RET pc_ lv_ v_ u_ h1_ h2_ (h3_.trans (by rw [r_L_isSample_at171, if_pos c_196, if_pos c_208, if_neg c_218, if_pos c_229, if_pos c_251, if_neg c_281, if_pos c_286, if_pos c_291, if_pos c_303, if_pos c_312, if_pos c_322, if_neg c_332, if_pos c_343])) (h4_.imp (fun _ h5_ => h5_.trans (by rw [c_L_isSample_1_at171, c_L_isSample_y_at171]))))
                  · skip
                    refine g_iconst E 1 dL_isSample_306 (by decide) ?_
                    refine g_goto E 311 dL_isSample_307 (by decide) ?_
                    refine g_iadd E dL_isSample_311 ?_
                    refine g_icmpne E 350 dL_isSample_312 (by decide) (fun c_312 => ?_) (fun c_312 => ?_)
                    · skip
                      refine g_iconst E 0 dL_isSample_350 (by decide) ?_
                      refine g_lvs (lv' := [(0, .ref (x 0)), (1, .int x1), (2, .int y1), (3, .int (S.1 9)), (6, .int v6_), (8, .int (S.1 13)), (11, .int (S.1 20)), (12, .int (S.1 7)), (13, .int (S.1 8))]) [5, 6, 7, 8, 11, 13, 16, 17, 18] rfl ?_
                      subst hv25_
                      subst hS24_
                      subst hS23_
                      subst hv21_
                      subst hv6_
                      subst hv5_
                      subst hv4_
                      exact s_L_isSample_351 d x a b c e x1 y1 p q S T h t y ss hy hu hz 0 p1 (by first | exact Or.inl rfl | exact Or.inr rfl | assumption) E (fun pc_ lv_ v_ u_ h1_ h2_ h3_ h4_ => RET pc_ lv_ v_ u_ h1_ h2_ (h3_.trans (by rw [r_L_isSample_at171, if_pos c_196, if_pos c_208, if_neg c_218, if_pos c_229, if_pos c_251, if_neg c_281, if_pos c_286, if_pos c_291, if_neg c_303, if_neg c_312])) (h4_.imp (fun _ h5_ => h5_.trans (by rw [c_L_isSample_1_at171, c_L_isSample_y_at171]))))
                    · skip
                      refine g_aload_n E 5 dL_isSample_315 rfl rfl ?_
                      refine g_iconst E 5 dL_isSample_316 (by decide) ?_
                      refine g_callVi0 E gc_X4_count ml_L_8 (t_X4_count d x a b c e 5 p1 q S23_ T h t S24_ ss ) rfl rfl (ci := 4) 0 rfl rfl rfl rfl (ok_le rfl) ⟨ok_le rfl, ok_le rfl, ok_le rfl, ok_le rfl⟩ rfl rfl dL_isSample_317 ?_
                      refine g_top (b := S23_.1 17) (count_5 _ _ _) ?_
                      refine g_iload E 15 dL_isSample_320 rfl ?_
                      refine g_icmpne E 350 dL_isSample_322 (by decide) (fun c_322 => ?_) (fun c_322 => ?_)
                      · skip
                        refine g_iconst E 0 dL_isSample_350 (by decide) ?_
                        refine g_lvs (lv' := [(0, .ref (x 0)), (1, .int x1), (2, .int y1), (3, .int (S.1 9)), (6, .int v6_), (8, .int (S.1 13)), (11, .int (S.1 20)), (12, .int (S.1 7)), (13, .int (S.1 8))]) [5, 6, 7, 8, 11, 13, 16, 17, 18] rfl ?_
                        subst hv25_
                        subst hS24_
                        subst hS23_
                        subst hv21_
                        subst hv6_
                        subst hv5_
                        subst hv4_
                        exact s_L_isSample_351 d x a b c e x1 y1 p q S T h t y ss hy hu hz 0 p1 (by first | exact Or.inl rfl | exact Or.inr rfl | assumption) E (fun pc_ lv_ v_ u_ h1_ h2_ h3_ h4_ => RET pc_ lv_ v_ u_ h1_ h2_ (h3_.trans (by rw [r_L_isSample_at171, if_pos c_196, if_pos c_208, if_neg c_218, if_pos c_229, if_pos c_251, if_neg c_281, if_pos c_286, if_pos c_291, if_neg c_303, if_pos c_312, if_neg c_322])) (h4_.imp (fun _ h5_ => h5_.trans (by rw [c_L_isSample_1_at171, c_L_isSample_y_at171]))))
                      · skip
                        refine g_aload_n E 5 dL_isSample_325 rfl rfl ?_
                        refine g_iconst E 2 dL_isSample_326 (by decide) ?_
                        refine g_callVi0 E gc_X4_count ml_L_8 (t_X4_count d x a b c e 2 p1 q S23_ T h t S24_ ss ) rfl rfl (ci := 4) 0 rfl rfl rfl rfl (ok_le rfl) ⟨ok_le rfl, ok_le rfl, ok_le rfl, ok_le rfl⟩ rfl rfl dL_isSample_327 ?_
                        refine g_top (b := S23_.1 12) (count_2 _ _ _) ?_
                        refine g_iload E 4 dL_isSample_330 rfl ?_
                        refine g_ifeq E 342 dL_isSample_332 (by decide) (fun c_332 => ?_) (fun c_332 => ?_)
                        · skip
                          refine g_iconst E 0 dL_isSample_342 (by decide) ?_
                          refine g_icmpne E 350 dL_isSample_343 (by decide) (fun c_343 => ?_) (fun c_343 => ?_)
                          · skip
                            refine g_iconst E 0 dL_isSample_350 (by decide) ?_
                            refine g_lvs (lv' := [(0, .ref (x 0)), (1, .int x1), (2, .int y1), (3, .int (S.1 9)), (6, .int v6_), (8, .int (S.1 13)), (11, .int (S.1 20)), (12, .int (S.1 7)), (13, .int (S.1 8))]) [5, 6, 7, 8, 11, 13, 16, 17, 18] rfl ?_
                            subst hv25_
                            subst hS24_
                            subst hS23_
                            subst hv21_
                            subst hv6_
                            subst hv5_
                            subst hv4_
                            exact s_L_isSample_351 d x a b c e x1 y1 p q S T h t y ss hy hu hz 0 p1 (by first | exact Or.inl rfl | exact Or.inr rfl | assumption) E (fun pc_ lv_ v_ u_ h1_ h2_ h3_ h4_ => RET pc_ lv_ v_ u_ h1_ h2_ (h3_.trans (by rw [r_L_isSample_at171, if_pos c_196, if_pos c_208, if_neg c_218, if_pos c_229, if_pos c_251, if_neg c_281, if_pos c_286, if_pos c_291, if_neg c_303, if_pos c_312, if_pos c_322, if_pos c_332, if_neg c_343])) (h4_.imp (fun _ h5_ => h5_.trans (by rw [c_L_isSample_1_at171, c_L_isSample_y_at171]))))
                          · skip
                            refine g_iconst E 1 dL_isSample_346 (by decide) ?_
                            refine g_goto E 351 dL_isSample_347 (by decide) ?_
                            refine g_lvs (lv' := [(0, .ref (x 0)), (1, .int x1), (2, .int y1), (3, .int (S.1 9)), (6, .int v6_), (8, .int (S.1 13)), (11, .int (S.1 20)), (12, .int (S.1 7)), (13, .int (S.1 8))]) [5, 6, 7, 8, 11, 13, 16, 17, 18] rfl ?_
                            subst hv25_
                            subst hS24_
                            subst hS23_
                            subst hv21_
                            subst hv6_
                            subst hv5_
                            subst hv4_
                            exact s_L_isSample_351 d x a b c e x1 y1 p q S T h t y ss hy hu hz 1 p1 (by first | exact Or.inl rfl | exact Or.inr rfl | assumption) E (fun pc_ lv_ v_ u_ h1_ h2_ h3_ h4_ => RET pc_ lv_ v_ u_ h1_ h2_ (h3_.trans (by rw [r_L_isSample_at171, if_pos c_196, if_pos c_208, if_neg c_218, if_pos c_229, if_pos c_251, if_neg c_281, if_pos c_286, if_pos c_291, if_neg c_303, if_pos c_312, if_pos c_322, if_pos c_332, if_pos c_343])) (h4_.imp (fun _ h5_ => h5_.trans (by rw [c_L_isSample_1_at171, c_L_isSample_y_at171]))))
                        · skip
                          refine g_iload E 12 dL_isSample_335 rfl ?_
                          refine g_iconst E 1 dL_isSample_337 (by decide) ?_
                          refine g_iadd E dL_isSample_338 ?_
                          refine g_goto E 343 dL_isSample_339 (by decide) ?_
                          refine g_icmpne E 350 dL_isSample_343 (by decide) (fun c_343 => ?_) (fun c_343 => ?_)
                          · skip
                            refine g_iconst E 0 dL_isSample_350 (by decide) ?_
                            refine g_lvs (lv' := [(0, .ref (x 0)), (1, .int x1), (2, .int y1), (3, .int (S.1 9)), (6, .int v6_), (8, .int (S.1 13)), (11, .int (S.1 20)), (12, .int (S.1 7)), (13, .int (S.1 8))]) [5, 6, 7, 8, 11, 13, 16, 17, 18] rfl ?_
                            subst hv25_
                            subst hS24_
                            subst hS23_
                            subst hv21_
                            subst hv6_
                            subst hv5_
                            subst hv4_
                            exact s_L_isSample_351 d x a b c e x1 y1 p q S T h t y ss hy hu hz 0 p1 (by first | exact Or.inl rfl | exact Or.inr rfl | assumption) E (fun pc_ lv_ v_ u_ h1_ h2_ h3_ h4_ => RET pc_ lv_ v_ u_ h1_ h2_ (h3_.trans (by rw [r_L_isSample_at171, if_pos c_196, if_pos c_208, if_neg c_218, if_pos c_229, if_pos c_251, if_neg c_281, if_pos c_286, if_pos c_291, if_neg c_303, if_pos c_312, if_pos c_322, if_neg c_332, if_neg c_343])) (h4_.imp (fun _ h5_ => h5_.trans (by rw [c_L_isSample_1_at171, c_L_isSample_y_at171]))))
                          · skip
                            refine g_iconst E 1 dL_isSample_346 (by decide) ?_
                            refine g_goto E 351 dL_isSample_347 (by decide) ?_
                            refine g_lvs (lv' := [(0, .ref (x 0)), (1, .int x1), (2, .int y1), (3, .int (S.1 9)), (6, .int v6_), (8, .int (S.1 13)), (11, .int (S.1 20)), (12, .int (S.1 7)), (13, .int (S.1 8))]) [5, 6, 7, 8, 11, 13, 16, 17, 18] rfl ?_
                            subst hv25_
                            subst hS24_
                            subst hS23_
                            subst hv21_
                            subst hv6_
                            subst hv5_
                            subst hv4_
                            exact s_L_isSample_351 d x a b c e x1 y1 p q S T h t y ss hy hu hz 1 p1 (by first | exact Or.inl rfl | exact Or.inr rfl | assumption) E (fun pc_ lv_ v_ u_ h1_ h2_ h3_ h4_ => RET pc_ lv_ v_ u_ h1_ h2_ (h3_.trans (by rw [r_L_isSample_at171, if_pos c_196, if_pos c_208, if_neg c_218, if_pos c_229, if_pos c_251, if_neg c_281, if_pos c_286, if_pos c_291, if_neg c_303, if_pos c_312, if_pos c_322, if_neg c_332, if_pos c_343])) (h4_.imp (fun _ h5_ => h5_.trans (by rw [c_L_isSample_1_at171, c_L_isSample_y_at171]))))
          · skip
            refine g_iconst E 0 dL_isSample_254 (by decide) ?_
            subst hv25_
            subst hS24_
            subst hS23_
            subst hv21_
            subst hv6_
            subst hv5_
            subst hv4_
            exact RET 255 _ 0 _ dL_isSample_255 rfl (by rw [r_L_isSample_at171, if_pos c_196, if_pos c_208, if_neg c_218, if_pos c_229, if_neg c_251]) ⟨p1, (by rw [c_L_isSample_1_at171, c_L_isSample_y_at171])⟩
      · skip
        refine g_iload E 11 dL_isSample_221 rfl ?_
        refine g_iconst E 1 dL_isSample_223 (by decide) ?_
        refine g_isub E dL_isSample_224 ?_
        refine g_goto E 229 dL_isSample_225 (by decide) ?_
        refine g_icmpne E 254 dL_isSample_229 (by decide) (fun c_229 => ?_) (fun c_229 => ?_)
        · skip
          refine g_iconst E 0 dL_isSample_254 (by decide) ?_
          subst hv25_
          subst hS24_
          subst hS23_
          subst hv21_
          subst hv6_
          subst hv5_
          subst hv4_
          exact RET 255 _ 0 _ dL_isSample_255 rfl (by rw [r_L_isSample_at171, if_pos c_196, if_pos c_208, if_pos c_218, if_neg c_229]) ⟨p1, (by rw [c_L_isSample_1_at171, c_L_isSample_y_at171])⟩
        · skip
          refine g_iload E 1 dL_isSample_232 rfl ?_
          refine g_sipush E 1000 dL_isSample_234 (by decide) ?_
          refine g_aload_n E 3 dL_isSample_237 rfl rfl ?_
          refine g_iconst E 0 dL_isSample_238 (by decide) ?_
          refine g_iconst E 1 dL_isSample_239 (by decide) ?_
          refine g_callVi0 E gc_X4_of ml_L_14 (t_X4_of d x a b c e 0 1 p1 q S23_ T h t S24_ ss ) rfl rfl (ci := 4) 0 rfl rfl rfl rfl (ok_le rfl) ⟨ok_le rfl, ok_le rfl, ok_le rfl, ok_le rfl⟩ rfl rfl dL_isSample_240 ?_
          refine g_top (b := (S23_.1 14) + 100) (of_0_1 _) ?_
          refine g_imul E dL_isSample_243 ?_
          refine g_aload_n E 3 dL_isSample_244 rfl rfl ?_
          refine g_iconst E 1 dL_isSample_245 (by decide) ?_
          refine g_iconst E 1 dL_isSample_246 (by decide) ?_
          refine g_callVi0 E gc_X4_of ml_L_14 (t_X4_of d x a b c e 1 1 p1 q S23_ T h t S24_ ss ) rfl rfl (ci := 4) 0 rfl rfl rfl rfl (ok_le rfl) ⟨ok_le rfl, ok_le rfl, ok_le rfl, ok_le rfl⟩ rfl rfl dL_isSample_247 ?_
          refine g_top (b := (S23_.1 15) + 100) (of_1_1 _) ?_
          refine g_iadd E dL_isSample_250 ?_
          refine g_icmpeq E 256 dL_isSample_251 (by decide) (fun c_251 => ?_) (fun c_251 => ?_)
          · skip
            refine g_aload_n E 3 dL_isSample_256 rfl rfl ?_
            refine g_iconst E 0 dL_isSample_257 (by decide) ?_
            refine g_iconst E 1 dL_isSample_258 (by decide) ?_
            refine g_callVi0 E gc_X4_of ml_L_14 (t_X4_of d x a b c e 0 1 p1 q S23_ T h t S24_ ss ) rfl rfl (ci := 4) 0 rfl rfl rfl rfl (ok_le rfl) ⟨ok_le rfl, ok_le rfl, ok_le rfl, ok_le rfl⟩ rfl rfl dL_isSample_259 ?_
            refine g_top (b := (S23_.1 14) + 100) (of_0_1 _) ?_
            refine g_bipush E 100 dL_isSample_262 (by decide) ?_
            refine g_isub E dL_isSample_264 ?_
            refine g_istore E (lv' := [(18, .int (((S23_.1 14) + 100) - 100)), (17, .int (S.1 21)), (16, .int v21_), (15, .int v), (0, .ref (x 0)), (1, .int x1), (2, .int y1), (3, .int (S.1 9)), (4, .int (x1 - ((S.1 7) / 16))), (5, .int (y1 - ((S.1 8) / 16))), (6, .int v6_), (7, .int (S.1 12)), (8, .int (S.1 13)), (9, .int (S.1 16)), (10, .int (S.1 17)), (11, .int (S.1 20)), (12, .int (S.1 7)), (13, .int (S.1 8)), (14, .int was)]) dL_isSample_265 (by decide) rfl ?_
            refine g_aload_n E 4 dL_isSample_267 rfl rfl ?_
            refine g_iconst E 1 dL_isSample_268 (by decide) ?_
            refine g_iconst E 1 dL_isSample_269 (by decide) ?_
            refine g_callVi0 E gc_X4_of ml_L_14 (t_X4_of d x a b c e 1 1 p1 q S23_ T h t S24_ ss ) rfl rfl (ci := 4) 0 rfl rfl rfl rfl (ok_le rfl) ⟨ok_le rfl, ok_le rfl, ok_le rfl, ok_le rfl⟩ rfl rfl dL_isSample_270 ?_
            refine g_top (b := (S23_.1 15) + 100) (of_1_1 _) ?_
            refine g_bipush E 100 dL_isSample_273 (by decide) ?_
            refine g_isub E dL_isSample_275 ?_
            refine g_istore E (lv' := [(19, .int (((S23_.1 15) + 100) - 100)), (18, .int (((S23_.1 14) + 100) - 100)), (17, .int (S.1 21)), (16, .int v21_), (15, .int v), (0, .ref (x 0)), (1, .int x1), (2, .int y1), (3, .int (S.1 9)), (4, .int (x1 - ((S.1 7) / 16))), (5, .int (y1 - ((S.1 8) / 16))), (6, .int v6_), (7, .int (S.1 12)), (8, .int (S.1 13)), (9, .int (S.1 16)), (10, .int (S.1 17)), (11, .int (S.1 20)), (12, .int (S.1 7)), (13, .int (S.1 8)), (14, .int was)]) dL_isSample_276 (by decide) rfl ?_
            refine g_iload E 11 dL_isSample_278 rfl ?_
            refine g_iload_n E 8 dL_isSample_280 rfl rfl ?_
            refine g_icmpgt E 527 dL_isSample_281 (by decide) (fun c_281 => ?_) (fun c_281 => ?_)
            · skip
              refine g_iload E 13 dL_isSample_527 rfl ?_
              refine g_ifne E 567 dL_isSample_529 (by decide) (fun c_529 => ?_) (fun c_529 => ?_)
              · skip
                refine g_iconst E 0 dL_isSample_567 (by decide) ?_
                refine g_lvs (lv' := [(0, .ref (x 0)), (1, .int x1), (2, .int y1), (3, .int (S.1 9)), (4, .int (x1 - ((S.1 7) / 16))), (5, .int (y1 - ((S.1 8) / 16))), (9, .int (S.1 16)), (10, .int (S.1 17)), (11, .int (S.1 20)), (12, .int (S.1 7)), (13, .int (S.1 8)), (18, .int (((S23_.1 14) + 100) - 100)), (19, .int (((S23_.1 15) + 100) - 100))]) [5, 6, 7, 8, 9, 10, 14, 15, 16, 17, 18, 1, 0] rfl ?_
                subst hv25_
                subst hS24_
                subst hS23_
                subst hv21_
                subst hv6_
                subst hv5_
                subst hv4_
                exact s_L_isSample_568 d x a b c e x1 y1 p q S T h t y ss hy hu hz 0 p1 (by first | exact Or.inl rfl | exact Or.inr rfl | assumption) E (fun pc_ lv_ v_ u_ h1_ h2_ h3_ h4_ => RET pc_ lv_ v_ u_ h1_ h2_ (h3_.trans (by rw [r_L_isSample_at171, if_pos c_196, if_pos c_208, if_pos c_218, if_pos c_229, if_pos c_251, if_pos c_281, if_neg c_529])) (h4_.imp (fun _ h5_ => h5_.trans (by rw [c_L_isSample_1_at171, c_L_isSample_y_at171]))))
              · skip
                refine g_iload E 4 dL_isSample_532 rfl ?_
                refine g_ifeq E 544 dL_isSample_534 (by decide) (fun c_534 => ?_) (fun c_534 => ?_)
                · skip
                  refine g_iconst E 0 dL_isSample_544 (by decide) ?_
                  refine g_aload_n E 5 dL_isSample_545 rfl rfl ?_
                  refine g_bipush E 15 dL_isSample_546 (by decide) ?_
                  refine g_callVi0 E gc_X4_count ml_L_8 (t_X4_count d x a b c e 15 p1 q S23_ T h t S24_ ss ) rfl rfl (ci := 4) 0 rfl rfl rfl rfl (ok_le rfl) ⟨ok_le rfl, ok_le rfl, ok_le rfl, ok_le rfl⟩ rfl rfl dL_isSample_548 ?_
                  refine g_top (b := S23_.2.1 5) (count_15 _ _ _) ?_
                  refine g_icmplt E 567 dL_isSample_551 (by decide) (fun c_551 => ?_) (fun c_551 => ?_)
                  · skip
                    refine g_iconst E 0 dL_isSample_567 (by decide) ?_
                    refine g_lvs (lv' := [(0, .ref (x 0)), (1, .int x1), (2, .int y1), (3, .int (S.1 9)), (4, .int (x1 - ((S.1 7) / 16))), (5, .int (y1 - ((S.1 8) / 16))), (9, .int (S.1 16)), (10, .int (S.1 17)), (11, .int (S.1 20)), (12, .int (S.1 7)), (13, .int (S.1 8)), (18, .int (((S23_.1 14) + 100) - 100)), (19, .int (((S23_.1 15) + 100) - 100))]) [5, 6, 7, 8, 9, 10, 14, 15, 16, 17, 18, 1, 0] rfl ?_
                    subst hv25_
                    subst hS24_
                    subst hS23_
                    subst hv21_
                    subst hv6_
                    subst hv5_
                    subst hv4_
                    exact s_L_isSample_568 d x a b c e x1 y1 p q S T h t y ss hy hu hz 0 p1 (by first | exact Or.inl rfl | exact Or.inr rfl | assumption) E (fun pc_ lv_ v_ u_ h1_ h2_ h3_ h4_ => RET pc_ lv_ v_ u_ h1_ h2_ (h3_.trans (by rw [r_L_isSample_at171, if_pos c_196, if_pos c_208, if_pos c_218, if_pos c_229, if_pos c_251, if_pos c_281, if_pos c_529, if_pos c_534, if_pos c_551])) (h4_.imp (fun _ h5_ => h5_.trans (by rw [c_L_isSample_1_at171, c_L_isSample_y_at171]))))
                  · skip
                    refine g_iload E 11 dL_isSample_554 rfl ?_
                    refine g_iload_n E 8 dL_isSample_556 rfl rfl ?_
                    refine g_bipush E 8 dL_isSample_557 (by decide) ?_
                    refine g_iadd E dL_isSample_559 ?_
                    refine g_icmpgt E 567 dL_isSample_560 (by decide) (fun c_560 => ?_) (fun c_560 => ?_)
                    · skip
                      refine g_iconst E 0 dL_isSample_567 (by decide) ?_
                      refine g_lvs (lv' := [(0, .ref (x 0)), (1, .int x1), (2, .int y1), (3, .int (S.1 9)), (4, .int (x1 - ((S.1 7) / 16))), (5, .int (y1 - ((S.1 8) / 16))), (9, .int (S.1 16)), (10, .int (S.1 17)), (11, .int (S.1 20)), (12, .int (S.1 7)), (13, .int (S.1 8)), (18, .int (((S23_.1 14) + 100) - 100)), (19, .int (((S23_.1 15) + 100) - 100))]) [5, 6, 7, 8, 9, 10, 14, 15, 16, 17, 18, 1, 0] rfl ?_
                      subst hv25_
                      subst hS24_
                      subst hS23_
                      subst hv21_
                      subst hv6_
                      subst hv5_
                      subst hv4_
                      exact s_L_isSample_568 d x a b c e x1 y1 p q S T h t y ss hy hu hz 0 p1 (by first | exact Or.inl rfl | exact Or.inr rfl | assumption) E (fun pc_ lv_ v_ u_ h1_ h2_ h3_ h4_ => RET pc_ lv_ v_ u_ h1_ h2_ (h3_.trans (by rw [r_L_isSample_at171, if_pos c_196, if_pos c_208, if_pos c_218, if_pos c_229, if_pos c_251, if_pos c_281, if_pos c_529, if_pos c_534, if_neg c_551, if_pos c_560])) (h4_.imp (fun _ h5_ => h5_.trans (by rw [c_L_isSample_1_at171, c_L_isSample_y_at171]))))
                    · skip
                      refine g_iconst E 1 dL_isSample_563 (by decide) ?_
                      refine g_goto E 568 dL_isSample_564 (by decide) ?_
                      refine g_lvs (lv' := [(0, .ref (x 0)), (1, .int x1), (2, .int y1), (3, .int (S.1 9)), (4, .int (x1 - ((S.1 7) / 16))), (5, .int (y1 - ((S.1 8) / 16))), (9, .int (S.1 16)), (10, .int (S.1 17)), (11, .int (S.1 20)), (12, .int (S.1 7)), (13, .int (S.1 8)), (18, .int (((S23_.1 14) + 100) - 100)), (19, .int (((S23_.1 15) + 100) - 100))]) [5, 6, 7, 8, 9, 10, 14, 15, 16, 17, 18, 1, 0] rfl ?_
                      subst hv25_
                      subst hS24_
                      subst hS23_
                      subst hv21_
                      subst hv6_
                      subst hv5_
                      subst hv4_
                      exact s_L_isSample_568 d x a b c e x1 y1 p q S T h t y ss hy hu hz 1 p1 (by first | exact Or.inl rfl | exact Or.inr rfl | assumption) E (fun pc_ lv_ v_ u_ h1_ h2_ h3_ h4_ => RET pc_ lv_ v_ u_ h1_ h2_ (h3_.trans (by rw [r_L_isSample_at171, if_pos c_196, if_pos c_208, if_pos c_218, if_pos c_229, if_pos c_251, if_pos c_281, if_pos c_529, if_pos c_534, if_neg c_551, if_neg c_560])) (h4_.imp (fun _ h5_ => h5_.trans (by rw [c_L_isSample_1_at171, c_L_isSample_y_at171]))))
                · skip
                  refine g_iload E 12 dL_isSample_537 rfl ?_
                  refine g_iconst E 1 dL_isSample_539 (by decide) ?_
                  refine g_iadd E dL_isSample_540 ?_
                  refine g_goto E 545 dL_isSample_541 (by decide) ?_
                  refine g_aload_n E 5 dL_isSample_545 rfl rfl ?_
                  refine g_bipush E 15 dL_isSample_546 (by decide) ?_
                  refine g_callVi0 E gc_X4_count ml_L_8 (t_X4_count d x a b c e 15 p1 q S23_ T h t S24_ ss ) rfl rfl (ci := 4) 0 rfl rfl rfl rfl (ok_le rfl) ⟨ok_le rfl, ok_le rfl, ok_le rfl, ok_le rfl⟩ rfl rfl dL_isSample_548 ?_
                  refine g_top (b := S23_.2.1 5) (count_15 _ _ _) ?_
                  refine g_icmplt E 567 dL_isSample_551 (by decide) (fun c_551 => ?_) (fun c_551 => ?_)
                  · skip
                    refine g_iconst E 0 dL_isSample_567 (by decide) ?_
                    refine g_lvs (lv' := [(0, .ref (x 0)), (1, .int x1), (2, .int y1), (3, .int (S.1 9)), (4, .int (x1 - ((S.1 7) / 16))), (5, .int (y1 - ((S.1 8) / 16))), (9, .int (S.1 16)), (10, .int (S.1 17)), (11, .int (S.1 20)), (12, .int (S.1 7)), (13, .int (S.1 8)), (18, .int (((S23_.1 14) + 100) - 100)), (19, .int (((S23_.1 15) + 100) - 100))]) [5, 6, 7, 8, 9, 10, 14, 15, 16, 17, 18, 1, 0] rfl ?_
                    subst hv25_
                    subst hS24_
                    subst hS23_
                    subst hv21_
                    subst hv6_
                    subst hv5_
                    subst hv4_
                    exact s_L_isSample_568 d x a b c e x1 y1 p q S T h t y ss hy hu hz 0 p1 (by first | exact Or.inl rfl | exact Or.inr rfl | assumption) E (fun pc_ lv_ v_ u_ h1_ h2_ h3_ h4_ => RET pc_ lv_ v_ u_ h1_ h2_ (h3_.trans (by rw [r_L_isSample_at171, if_pos c_196, if_pos c_208, if_pos c_218, if_pos c_229, if_pos c_251, if_pos c_281, if_pos c_529, if_neg c_534, if_pos c_551])) (h4_.imp (fun _ h5_ => h5_.trans (by rw [c_L_isSample_1_at171, c_L_isSample_y_at171]))))
                  · skip
                    refine g_iload E 11 dL_isSample_554 rfl ?_
                    refine g_iload_n E 8 dL_isSample_556 rfl rfl ?_
                    refine g_bipush E 8 dL_isSample_557 (by decide) ?_
                    refine g_iadd E dL_isSample_559 ?_
                    refine g_icmpgt E 567 dL_isSample_560 (by decide) (fun c_560 => ?_) (fun c_560 => ?_)
                    · skip
                      refine g_iconst E 0 dL_isSample_567 (by decide) ?_
                      refine g_lvs (lv' := [(0, .ref (x 0)), (1, .int x1), (2, .int y1), (3, .int (S.1 9)), (4, .int (x1 - ((S.1 7) / 16))), (5, .int (y1 - ((S.1 8) / 16))), (9, .int (S.1 16)), (10, .int (S.1 17)), (11, .int (S.1 20)), (12, .int (S.1 7)), (13, .int (S.1 8)), (18, .int (((S23_.1 14) + 100) - 100)), (19, .int (((S23_.1 15) + 100) - 100))]) [5, 6, 7, 8, 9, 10, 14, 15, 16, 17, 18, 1, 0] rfl ?_
                      subst hv25_
                      subst hS24_
                      subst hS23_
                      subst hv21_
                      subst hv6_
                      subst hv5_
                      subst hv4_
                      exact s_L_isSample_568 d x a b c e x1 y1 p q S T h t y ss hy hu hz 0 p1 (by first | exact Or.inl rfl | exact Or.inr rfl | assumption) E (fun pc_ lv_ v_ u_ h1_ h2_ h3_ h4_ => RET pc_ lv_ v_ u_ h1_ h2_ (h3_.trans (by rw [r_L_isSample_at171, if_pos c_196, if_pos c_208, if_pos c_218, if_pos c_229, if_pos c_251, if_pos c_281, if_pos c_529, if_neg c_534, if_neg c_551, if_pos c_560])) (h4_.imp (fun _ h5_ => h5_.trans (by rw [c_L_isSample_1_at171, c_L_isSample_y_at171]))))
                    · skip
                      refine g_iconst E 1 dL_isSample_563 (by decide) ?_
                      refine g_goto E 568 dL_isSample_564 (by decide) ?_
                      refine g_lvs (lv' := [(0, .ref (x 0)), (1, .int x1), (2, .int y1), (3, .int (S.1 9)), (4, .int (x1 - ((S.1 7) / 16))), (5, .int (y1 - ((S.1 8) / 16))), (9, .int (S.1 16)), (10, .int (S.1 17)), (11, .int (S.1 20)), (12, .int (S.1 7)), (13, .int (S.1 8)), (18, .int (((S23_.1 14) + 100) - 100)), (19, .int (((S23_.1 15) + 100) - 100))]) [5, 6, 7, 8, 9, 10, 14, 15, 16, 17, 18, 1, 0] rfl ?_
                      subst hv25_
                      subst hS24_
                      subst hS23_
                      subst hv21_
                      subst hv6_
                      subst hv5_
                      subst hv4_
                      exact s_L_isSample_568 d x a b c e x1 y1 p q S T h t y ss hy hu hz 1 p1 (by first | exact Or.inl rfl | exact Or.inr rfl | assumption) E (fun pc_ lv_ v_ u_ h1_ h2_ h3_ h4_ => RET pc_ lv_ v_ u_ h1_ h2_ (h3_.trans (by rw [r_L_isSample_at171, if_pos c_196, if_pos c_208, if_pos c_218, if_pos c_229, if_pos c_251, if_pos c_281, if_pos c_529, if_neg c_534, if_neg c_551, if_neg c_560])) (h4_.imp (fun _ h5_ => h5_.trans (by rw [c_L_isSample_1_at171, c_L_isSample_y_at171]))))
            · skip
              refine g_iload E 1 dL_isSample_284 rfl ?_
              refine g_ifne E 350 dL_isSample_286 (by decide) (fun c_286 => ?_) (fun c_286 => ?_)
              · skip
                refine g_iconst E 0 dL_isSample_350 (by decide) ?_
                refine g_lvs (lv' := [(0, .ref (x 0)), (1, .int x1), (2, .int y1), (3, .int (S.1 9)), (6, .int v6_), (8, .int (S.1 13)), (11, .int (S.1 20)), (12, .int (S.1 7)), (13, .int (S.1 8))]) [5, 6, 7, 8, 11, 13, 16, 17, 18] rfl ?_
                subst hv25_
                subst hS24_
                subst hS23_
                subst hv21_
                subst hv6_
                subst hv5_
                subst hv4_
                exact s_L_isSample_351 d x a b c e x1 y1 p q S T h t y ss hy hu hz 0 p1 (by first | exact Or.inl rfl | exact Or.inr rfl | assumption) E (fun pc_ lv_ v_ u_ h1_ h2_ h3_ h4_ => RET pc_ lv_ v_ u_ h1_ h2_ (h3_.trans (by rw [r_L_isSample_at171, if_pos c_196, if_pos c_208, if_pos c_218, if_pos c_229, if_pos c_251, if_neg c_281, if_neg c_286])) (h4_.imp (fun _ h5_ => h5_.trans (by rw [c_L_isSample_1_at171, c_L_isSample_y_at171]))))
              · skip
                refine g_iload E 0 dL_isSample_289 rfl ?_
                refine g_ifne E 350 dL_isSample_291 (by decide) (fun c_291 => ?_) (fun c_291 => ?_)
                · skip
                  refine g_iconst E 0 dL_isSample_350 (by decide) ?_
                  refine g_lvs (lv' := [(0, .ref (x 0)), (1, .int x1), (2, .int y1), (3, .int (S.1 9)), (6, .int v6_), (8, .int (S.1 13)), (11, .int (S.1 20)), (12, .int (S.1 7)), (13, .int (S.1 8))]) [5, 6, 7, 8, 11, 13, 16, 17, 18] rfl ?_
                  subst hv25_
                  subst hS24_
                  subst hS23_
                  subst hv21_
                  subst hv6_
                  subst hv5_
                  subst hv4_
                  exact s_L_isSample_351 d x a b c e x1 y1 p q S T h t y ss hy hu hz 0 p1 (by first | exact Or.inl rfl | exact Or.inr rfl | assumption) E (fun pc_ lv_ v_ u_ h1_ h2_ h3_ h4_ => RET pc_ lv_ v_ u_ h1_ h2_ (h3_.trans (by rw [r_L_isSample_at171, if_pos c_196, if_pos c_208, if_pos c_218, if_pos c_229, if_pos c_251, if_neg c_281, if_pos c_286, if_neg c_291])) (h4_.imp (fun _ h5_ => h5_.trans (by rw [c_L_isSample_1_at171, c_L_isSample_y_at171]))))
                · skip
                  refine g_aload_n E 5 dL_isSample_294 rfl rfl ?_
                  refine g_iconst E 4 dL_isSample_295 (by decide) ?_
                  refine g_callVi0 E gc_X4_count ml_L_8 (t_X4_count d x a b c e 4 p1 q S23_ T h t S24_ ss ) rfl rfl (ci := 4) 0 rfl rfl rfl rfl (ok_le rfl) ⟨ok_le rfl, ok_le rfl, ok_le rfl, ok_le rfl⟩ rfl rfl dL_isSample_296 ?_
                  refine g_top (b := S23_.1 16) (count_4 _ _ _) ?_
                  refine g_iload E 14 dL_isSample_299 rfl ?_
                  refine g_iload E 19 dL_isSample_301 rfl ?_
                  refine g_ifeq E 310 dL_isSample_303 (by decide) (fun c_303 => ?_) (fun c_303 => ?_)
                  · skip
                    refine g_iconst E 0 dL_isSample_310 (by decide) ?_
                    refine g_iadd E dL_isSample_311 ?_
                    refine g_icmpne E 350 dL_isSample_312 (by decide) (fun c_312 => ?_) (fun c_312 => ?_)
                    · skip
                      refine g_iconst E 0 dL_isSample_350 (by decide) ?_
                      refine g_lvs (lv' := [(0, .ref (x 0)), (1, .int x1), (2, .int y1), (3, .int (S.1 9)), (6, .int v6_), (8, .int (S.1 13)), (11, .int (S.1 20)), (12, .int (S.1 7)), (13, .int (S.1 8))]) [5, 6, 7, 8, 11, 13, 16, 17, 18] rfl ?_
                      subst hv25_
                      subst hS24_
                      subst hS23_
                      subst hv21_
                      subst hv6_
                      subst hv5_
                      subst hv4_
                      exact s_L_isSample_351 d x a b c e x1 y1 p q S T h t y ss hy hu hz 0 p1 (by first | exact Or.inl rfl | exact Or.inr rfl | assumption) E (fun pc_ lv_ v_ u_ h1_ h2_ h3_ h4_ => RET pc_ lv_ v_ u_ h1_ h2_ (h3_.trans (by rw [r_L_isSample_at171, if_pos c_196, if_pos c_208, if_pos c_218, if_pos c_229, if_pos c_251, if_neg c_281, if_pos c_286, if_pos c_291, if_pos c_303, if_neg c_312])) (h4_.imp (fun _ h5_ => h5_.trans (by rw [c_L_isSample_1_at171, c_L_isSample_y_at171]))))
                    · skip
                      refine g_aload_n E 5 dL_isSample_315 rfl rfl ?_
                      refine g_iconst E 5 dL_isSample_316 (by decide) ?_
                      refine g_callVi0 E gc_X4_count ml_L_8 (t_X4_count d x a b c e 5 p1 q S23_ T h t S24_ ss ) rfl rfl (ci := 4) 0 rfl rfl rfl rfl (ok_le rfl) ⟨ok_le rfl, ok_le rfl, ok_le rfl, ok_le rfl⟩ rfl rfl dL_isSample_317 ?_
                      refine g_top (b := S23_.1 17) (count_5 _ _ _) ?_
                      refine g_iload E 15 dL_isSample_320 rfl ?_
                      refine g_icmpne E 350 dL_isSample_322 (by decide) (fun c_322 => ?_) (fun c_322 => ?_)
                      · skip
                        refine g_iconst E 0 dL_isSample_350 (by decide) ?_
                        refine g_lvs (lv' := [(0, .ref (x 0)), (1, .int x1), (2, .int y1), (3, .int (S.1 9)), (6, .int v6_), (8, .int (S.1 13)), (11, .int (S.1 20)), (12, .int (S.1 7)), (13, .int (S.1 8))]) [5, 6, 7, 8, 11, 13, 16, 17, 18] rfl ?_
                        subst hv25_
                        subst hS24_
                        subst hS23_
                        subst hv21_
                        subst hv6_
                        subst hv5_
                        subst hv4_
                        exact s_L_isSample_351 d x a b c e x1 y1 p q S T h t y ss hy hu hz 0 p1 (by first | exact Or.inl rfl | exact Or.inr rfl | assumption) E (fun pc_ lv_ v_ u_ h1_ h2_ h3_ h4_ => RET pc_ lv_ v_ u_ h1_ h2_ (h3_.trans (by rw [r_L_isSample_at171, if_pos c_196, if_pos c_208, if_pos c_218, if_pos c_229, if_pos c_251, if_neg c_281, if_pos c_286, if_pos c_291, if_pos c_303, if_pos c_312, if_neg c_322])) (h4_.imp (fun _ h5_ => h5_.trans (by rw [c_L_isSample_1_at171, c_L_isSample_y_at171]))))
                      · skip
                        refine g_aload_n E 5 dL_isSample_325 rfl rfl ?_
                        refine g_iconst E 2 dL_isSample_326 (by decide) ?_
                        refine g_callVi0 E gc_X4_count ml_L_8 (t_X4_count d x a b c e 2 p1 q S23_ T h t S24_ ss ) rfl rfl (ci := 4) 0 rfl rfl rfl rfl (ok_le rfl) ⟨ok_le rfl, ok_le rfl, ok_le rfl, ok_le rfl⟩ rfl rfl dL_isSample_327 ?_
                        refine g_top (b := S23_.1 12) (count_2 _ _ _) ?_
                        refine g_iload E 4 dL_isSample_330 rfl ?_
                        refine g_ifeq E 342 dL_isSample_332 (by decide) (fun c_332 => ?_) (fun c_332 => ?_)
                        · skip
                          refine g_iconst E 0 dL_isSample_342 (by decide) ?_
                          refine g_icmpne E 350 dL_isSample_343 (by decide) (fun c_343 => ?_) (fun c_343 => ?_)
                          · skip
                            refine g_iconst E 0 dL_isSample_350 (by decide) ?_
                            refine g_lvs (lv' := [(0, .ref (x 0)), (1, .int x1), (2, .int y1), (3, .int (S.1 9)), (6, .int v6_), (8, .int (S.1 13)), (11, .int (S.1 20)), (12, .int (S.1 7)), (13, .int (S.1 8))]) [5, 6, 7, 8, 11, 13, 16, 17, 18] rfl ?_
                            subst hv25_
                            subst hS24_
                            subst hS23_
                            subst hv21_
                            subst hv6_
                            subst hv5_
                            subst hv4_
                            exact s_L_isSample_351 d x a b c e x1 y1 p q S T h t y ss hy hu hz 0 p1 (by first | exact Or.inl rfl | exact Or.inr rfl | assumption) E (fun pc_ lv_ v_ u_ h1_ h2_ h3_ h4_ => RET pc_ lv_ v_ u_ h1_ h2_ (h3_.trans (by rw [r_L_isSample_at171, if_pos c_196, if_pos c_208, if_pos c_218, if_pos c_229, if_pos c_251, if_neg c_281, if_pos c_286, if_pos c_291, if_pos c_303, if_pos c_312, if_pos c_322, if_pos c_332, if_neg c_343])) (h4_.imp (fun _ h5_ => h5_.trans (by rw [c_L_isSample_1_at171, c_L_isSample_y_at171]))))
                          · skip
                            refine g_iconst E 1 dL_isSample_346 (by decide) ?_
                            refine g_goto E 351 dL_isSample_347 (by decide) ?_
                            refine g_lvs (lv' := [(0, .ref (x 0)), (1, .int x1), (2, .int y1), (3, .int (S.1 9)), (6, .int v6_), (8, .int (S.1 13)), (11, .int (S.1 20)), (12, .int (S.1 7)), (13, .int (S.1 8))]) [5, 6, 7, 8, 11, 13, 16, 17, 18] rfl ?_
                            subst hv25_
                            subst hS24_
                            subst hS23_
                            subst hv21_
                            subst hv6_
                            subst hv5_
                            subst hv4_
                            exact s_L_isSample_351 d x a b c e x1 y1 p q S T h t y ss hy hu hz 1 p1 (by first | exact Or.inl rfl | exact Or.inr rfl | assumption) E (fun pc_ lv_ v_ u_ h1_ h2_ h3_ h4_ => RET pc_ lv_ v_ u_ h1_ h2_ (h3_.trans (by rw [r_L_isSample_at171, if_pos c_196, if_pos c_208, if_pos c_218, if_pos c_229, if_pos c_251, if_neg c_281, if_pos c_286, if_pos c_291, if_pos c_303, if_pos c_312, if_pos c_322, if_pos c_332, if_pos c_343])) (h4_.imp (fun _ h5_ => h5_.trans (by rw [c_L_isSample_1_at171, c_L_isSample_y_at171]))))
                        · skip
                          refine g_iload E 12 dL_isSample_335 rfl ?_
                          refine g_iconst E 1 dL_isSample_337 (by decide) ?_
                          refine g_iadd E dL_isSample_338 ?_
                          refine g_goto E 343 dL_isSample_339 (by decide) ?_
                          refine g_icmpne E 350 dL_isSample_343 (by decide) (fun c_343 => ?_) (fun c_343 => ?_)
                          · skip
                            refine g_iconst E 0 dL_isSample_350 (by decide) ?_
                            refine g_lvs (lv' := [(0, .ref (x 0)), (1, .int x1), (2, .int y1), (3, .int (S.1 9)), (6, .int v6_), (8, .int (S.1 13)), (11, .int (S.1 20)), (12, .int (S.1 7)), (13, .int (S.1 8))]) [5, 6, 7, 8, 11, 13, 16, 17, 18] rfl ?_
                            subst hv25_
                            subst hS24_
                            subst hS23_
                            subst hv21_
                            subst hv6_
                            subst hv5_
                            subst hv4_
                            exact s_L_isSample_351 d x a b c e x1 y1 p q S T h t y ss hy hu hz 0 p1 (by first | exact Or.inl rfl | exact Or.inr rfl | assumption) E (fun pc_ lv_ v_ u_ h1_ h2_ h3_ h4_ => RET pc_ lv_ v_ u_ h1_ h2_ (h3_.trans (by rw [r_L_isSample_at171, if_pos c_196, if_pos c_208, if_pos c_218, if_pos c_229, if_pos c_251, if_neg c_281, if_pos c_286, if_pos c_291, if_pos c_303, if_pos c_312, if_pos c_322, if_neg c_332, if_neg c_343])) (h4_.imp (fun _ h5_ => h5_.trans (by rw [c_L_isSample_1_at171, c_L_isSample_y_at171]))))
                          · skip
                            refine g_iconst E 1 dL_isSample_346 (by decide) ?_
                            refine g_goto E 351 dL_isSample_347 (by decide) ?_
                            refine g_lvs (lv' := [(0, .ref (x 0)), (1, .int x1), (2, .int y1), (3, .int (S.1 9)), (6, .int v6_), (8, .int (S.1 13)), (11, .int (S.1 20)), (12, .int (S.1 7)), (13, .int (S.1 8))]) [5, 6, 7, 8, 11, 13, 16, 17, 18] rfl ?_
                            subst hv25_
                            subst hS24_
                            subst hS23_
                            subst hv21_
                            subst hv6_
                            subst hv5_
                            subst hv4_
                            exact s_L_isSample_351 d x a b c e x1 y1 p q S T h t y ss hy hu hz 1 p1 (by first | exact Or.inl rfl | exact Or.inr rfl | assumption) E (fun pc_ lv_ v_ u_ h1_ h2_ h3_ h4_ => RET pc_ lv_ v_ u_ h1_ h2_ (h3_.trans (by rw [r_L_isSample_at171, if_pos c_196, if_pos c_208, if_pos c_218, if_pos c_229, if_pos c_251, if_neg c_281, if_pos c_286, if_pos c_291, if_pos c_303, if_pos c_312, if_pos c_322, if_neg c_332, if_pos c_343])) (h4_.imp (fun _ h5_ => h5_.trans (by rw [c_L_isSample_1_at171, c_L_isSample_y_at171]))))
                  · skip
                    refine g_iconst E 1 dL_isSample_306 (by decide) ?_
                    refine g_goto E 311 dL_isSample_307 (by decide) ?_
                    refine g_iadd E dL_isSample_311 ?_
                    refine g_icmpne E 350 dL_isSample_312 (by decide) (fun c_312 => ?_) (fun c_312 => ?_)
                    · skip
                      refine g_iconst E 0 dL_isSample_350 (by decide) ?_
                      refine g_lvs (lv' := [(0, .ref (x 0)), (1, .int x1), (2, .int y1), (3, .int (S.1 9)), (6, .int v6_), (8, .int (S.1 13)), (11, .int (S.1 20)), (12, .int (S.1 7)), (13, .int (S.1 8))]) [5, 6, 7, 8, 11, 13, 16, 17, 18] rfl ?_
                      subst hv25_
                      subst hS24_
                      subst hS23_
                      subst hv21_
                      subst hv6_
                      subst hv5_
                      subst hv4_
                      exact s_L_isSample_351 d x a b c e x1 y1 p q S T h t y ss hy hu hz 0 p1 (by first | exact Or.inl rfl | exact Or.inr rfl | assumption) E (fun pc_ lv_ v_ u_ h1_ h2_ h3_ h4_ => RET pc_ lv_ v_ u_ h1_ h2_ (h3_.trans (by rw [r_L_isSample_at171, if_pos c_196, if_pos c_208, if_pos c_218, if_pos c_229, if_pos c_251, if_neg c_281, if_pos c_286, if_pos c_291, if_neg c_303, if_neg c_312])) (h4_.imp (fun _ h5_ => h5_.trans (by rw [c_L_isSample_1_at171, c_L_isSample_y_at171]))))
                    · skip
                      refine g_aload_n E 5 dL_isSample_315 rfl rfl ?_
                      refine g_iconst E 5 dL_isSample_316 (by decide) ?_
                      refine g_callVi0 E gc_X4_count ml_L_8 (t_X4_count d x a b c e 5 p1 q S23_ T h t S24_ ss ) rfl rfl (ci := 4) 0 rfl rfl rfl rfl (ok_le rfl) ⟨ok_le rfl, ok_le rfl, ok_le rfl, ok_le rfl⟩ rfl rfl dL_isSample_317 ?_
                      refine g_top (b := S23_.1 17) (count_5 _ _ _) ?_
                      refine g_iload E 15 dL_isSample_320 rfl ?_
                      refine g_icmpne E 350 dL_isSample_322 (by decide) (fun c_322 => ?_) (fun c_322 => ?_)
                      · skip
                        refine g_iconst E 0 dL_isSample_350 (by decide) ?_
                        refine g_lvs (lv' := [(0, .ref (x 0)), (1, .int x1), (2, .int y1), (3, .int (S.1 9)), (6, .int v6_), (8, .int (S.1 13)), (11, .int (S.1 20)), (12, .int (S.1 7)), (13, .int (S.1 8))]) [5, 6, 7, 8, 11, 13, 16, 17, 18] rfl ?_
                        subst hv25_
                        subst hS24_
                        subst hS23_
                        subst hv21_
                        subst hv6_
                        subst hv5_
                        subst hv4_
                        exact s_L_isSample_351 d x a b c e x1 y1 p q S T h t y ss hy hu hz 0 p1 (by first | exact Or.inl rfl | exact Or.inr rfl | assumption) E (fun pc_ lv_ v_ u_ h1_ h2_ h3_ h4_ => RET pc_ lv_ v_ u_ h1_ h2_ (h3_.trans (by rw [r_L_isSample_at171, if_pos c_196, if_pos c_208, if_pos c_218, if_pos c_229, if_pos c_251, if_neg c_281, if_pos c_286, if_pos c_291, if_neg c_303, if_pos c_312, if_neg c_322])) (h4_.imp (fun _ h5_ => h5_.trans (by rw [c_L_isSample_1_at171, c_L_isSample_y_at171]))))
                      · skip
                        refine g_aload_n E 5 dL_isSample_325 rfl rfl ?_
                        refine g_iconst E 2 dL_isSample_326 (by decide) ?_
                        refine g_callVi0 E gc_X4_count ml_L_8 (t_X4_count d x a b c e 2 p1 q S23_ T h t S24_ ss ) rfl rfl (ci := 4) 0 rfl rfl rfl rfl (ok_le rfl) ⟨ok_le rfl, ok_le rfl, ok_le rfl, ok_le rfl⟩ rfl rfl dL_isSample_327 ?_
                        refine g_top (b := S23_.1 12) (count_2 _ _ _) ?_
                        refine g_iload E 4 dL_isSample_330 rfl ?_
                        refine g_ifeq E 342 dL_isSample_332 (by decide) (fun c_332 => ?_) (fun c_332 => ?_)
                        · skip
                          refine g_iconst E 0 dL_isSample_342 (by decide) ?_
                          refine g_icmpne E 350 dL_isSample_343 (by decide) (fun c_343 => ?_) (fun c_343 => ?_)
                          · skip
                            refine g_iconst E 0 dL_isSample_350 (by decide) ?_
                            refine g_lvs (lv' := [(0, .ref (x 0)), (1, .int x1), (2, .int y1), (3, .int (S.1 9)), (6, .int v6_), (8, .int (S.1 13)), (11, .int (S.1 20)), (12, .int (S.1 7)), (13, .int (S.1 8))]) [5, 6, 7, 8, 11, 13, 16, 17, 18] rfl ?_
                            subst hv25_
                            subst hS24_
                            subst hS23_
                            subst hv21_
                            subst hv6_
                            subst hv5_
                            subst hv4_
                            exact s_L_isSample_351 d x a b c e x1 y1 p q S T h t y ss hy hu hz 0 p1 (by first | exact Or.inl rfl | exact Or.inr rfl | assumption) E (fun pc_ lv_ v_ u_ h1_ h2_ h3_ h4_ => RET pc_ lv_ v_ u_ h1_ h2_ (h3_.trans (by rw [r_L_isSample_at171, if_pos c_196, if_pos c_208, if_pos c_218, if_pos c_229, if_pos c_251, if_neg c_281, if_pos c_286, if_pos c_291, if_neg c_303, if_pos c_312, if_pos c_322, if_pos c_332, if_neg c_343])) (h4_.imp (fun _ h5_ => h5_.trans (by rw [c_L_isSample_1_at171, c_L_isSample_y_at171]))))
                          · skip
                            refine g_iconst E 1 dL_isSample_346 (by decide) ?_
                            refine g_goto E 351 dL_isSample_347 (by decide) ?_
                            refine g_lvs (lv' := [(0, .ref (x 0)), (1, .int x1), (2, .int y1), (3, .int (S.1 9)), (6, .int v6_), (8, .int (S.1 13)), (11, .int (S.1 20)), (12, .int (S.1 7)), (13, .int (S.1 8))]) [5, 6, 7, 8, 11, 13, 16, 17, 18] rfl ?_
                            subst hv25_
                            subst hS24_
                            subst hS23_
                            subst hv21_
                            subst hv6_
                            subst hv5_
                            subst hv4_
                            exact s_L_isSample_351 d x a b c e x1 y1 p q S T h t y ss hy hu hz 1 p1 (by first | exact Or.inl rfl | exact Or.inr rfl | assumption) E (fun pc_ lv_ v_ u_ h1_ h2_ h3_ h4_ => RET pc_ lv_ v_ u_ h1_ h2_ (h3_.trans (by rw [r_L_isSample_at171, if_pos c_196, if_pos c_208, if_pos c_218, if_pos c_229, if_pos c_251, if_neg c_281, if_pos c_286, if_pos c_291, if_neg c_303, if_pos c_312, if_pos c_322, if_pos c_332, if_pos c_343])) (h4_.imp (fun _ h5_ => h5_.trans (by rw [c_L_isSample_1_at171, c_L_isSample_y_at171]))))
                        · skip
                          refine g_iload E 12 dL_isSample_335 rfl ?_
                          refine g_iconst E 1 dL_isSample_337 (by decide) ?_
                          refine g_iadd E dL_isSample_338 ?_
                          refine g_goto E 343 dL_isSample_339 (by decide) ?_
                          refine g_icmpne E 350 dL_isSample_343 (by decide) (fun c_343 => ?_) (fun c_343 => ?_)
                          · skip
                            refine g_iconst E 0 dL_isSample_350 (by decide) ?_
                            refine g_lvs (lv' := [(0, .ref (x 0)), (1, .int x1), (2, .int y1), (3, .int (S.1 9)), (6, .int v6_), (8, .int (S.1 13)), (11, .int (S.1 20)), (12, .int (S.1 7)), (13, .int (S.1 8))]) [5, 6, 7, 8, 11, 13, 16, 17, 18] rfl ?_
                            subst hv25_
                            subst hS24_
                            subst hS23_
                            subst hv21_
                            subst hv6_
                            subst hv5_
                            subst hv4_
                            exact s_L_isSample_351 d x a b c e x1 y1 p q S T h t y ss hy hu hz 0 p1 (by first | exact Or.inl rfl | exact Or.inr rfl | assumption) E (fun pc_ lv_ v_ u_ h1_ h2_ h3_ h4_ => RET pc_ lv_ v_ u_ h1_ h2_ (h3_.trans (by rw [r_L_isSample_at171, if_pos c_196, if_pos c_208, if_pos c_218, if_pos c_229, if_pos c_251, if_neg c_281, if_pos c_286, if_pos c_291, if_neg c_303, if_pos c_312, if_pos c_322, if_neg c_332, if_neg c_343])) (h4_.imp (fun _ h5_ => h5_.trans (by rw [c_L_isSample_1_at171, c_L_isSample_y_at171]))))
                          · skip
                            refine g_iconst E 1 dL_isSample_346 (by decide) ?_
                            refine g_goto E 351 dL_isSample_347 (by decide) ?_
                            refine g_lvs (lv' := [(0, .ref (x 0)), (1, .int x1), (2, .int y1), (3, .int (S.1 9)), (6, .int v6_), (8, .int (S.1 13)), (11, .int (S.1 20)), (12, .int (S.1 7)), (13, .int (S.1 8))]) [5, 6, 7, 8, 11, 13, 16, 17, 18] rfl ?_
                            subst hv25_
                            subst hS24_
                            subst hS23_
                            subst hv21_
                            subst hv6_
                            subst hv5_
                            subst hv4_
                            exact s_L_isSample_351 d x a b c e x1 y1 p q S T h t y ss hy hu hz 1 p1 (by first | exact Or.inl rfl | exact Or.inr rfl | assumption) E (fun pc_ lv_ v_ u_ h1_ h2_ h3_ h4_ => RET pc_ lv_ v_ u_ h1_ h2_ (h3_.trans (by rw [r_L_isSample_at171, if_pos c_196, if_pos c_208, if_pos c_218, if_pos c_229, if_pos c_251, if_neg c_281, if_pos c_286, if_pos c_291, if_neg c_303, if_pos c_312, if_pos c_322, if_neg c_332, if_pos c_343])) (h4_.imp (fun _ h5_ => h5_.trans (by rw [c_L_isSample_1_at171, c_L_isSample_y_at171]))))
          · skip
            refine g_iconst E 0 dL_isSample_254 (by decide) ?_
            subst hv25_
            subst hS24_
            subst hS23_
            subst hv21_
            subst hv6_
            subst hv5_
            subst hv4_
            exact RET 255 _ 0 _ dL_isSample_255 rfl (by rw [r_L_isSample_at171, if_pos c_196, if_pos c_208, if_pos c_218, if_pos c_229, if_neg c_251]) ⟨p1, (by rw [c_L_isSample_1_at171, c_L_isSample_y_at171])⟩
set_option maxHeartbeats 1000000 in
set_option maxRecDepth 100000 in
theorem s_L_isSample_126 (d : gD) (x : Nat → Nat) (a : Nat → Nat) (b : Nat → Nat) (c : Nat → Nat) (e : Nat → Nat) (x1 : Int32) (y1 : Int32) (p : Nat → Nat → Nat) (q : Nat → Nat → Nat) (S : SS) (T : SS) (h : Nat → Int32) (t : Nat → Int32) (y : HS) (ss : Nat → Option SS) (hy : y.1 < 6 ∧ y.2.1 ≤ 6) (hu : ¬ S.2.2.1 0 < 0) (hz : ¬ S.2.1 0 = 0) (v : Int32) (hv : v = 0 ∨ v = 1) {X : gX} (E : gE d X RL cL_isSample 22 R_L_isSample) (RET : ∀ (pc_ : Nat) (lv_ : List (Nat × Value)) (v_ : Int32) (u_ : va_W), decode cL_isSample pc_ = .ok (.ireturn, 1) → narrow .boolean (.int v_) = .int v_ → v_ = r_L_isSample_at126 x1 y1 S y v → (∃ p_ : Nat → Nat → Nat, u_ = XW d (x, a, b, c, e) p_ q (c_L_isSample_1_at126 x1 y1 S y v) T h t (c_L_isSample_y_at126 x1 y1 S y v) ss) → G d X u_ R_L_isSample.cells R_L_isSample.slots pc_ lv_ [.int v_]) : G d X (XW d (x, a, b, c, e) p q S T h t y ss) 0 0 126 [(0, .ref (x 0)), (1, .int x1), (2, .int y1), (3, .int (S.1 9)), (4, .int (x1 - ((S.1 7) / 16))), (5, .int (y1 - ((S.1 8) / 16))), (6, .int (r_L_greater (r_L_size (x1 - ((S.1 7) / 16))) (r_L_size (y1 - ((S.1 8) / 16))))), (7, .int (S.1 12)), (8, .int (S.1 13)), (9, .int (S.1 16)), (10, .int (S.1 17)), (11, .int (S.1 20)), (12, .int (S.1 7)), (13, .int (S.1 8))] [.int v] := by
  obtain ⟨v4_, hv4_⟩ : ∃ z, r_L_size (x1 - ((S.1 7) / 16)) = z := ⟨_, rfl⟩
  rw [hv4_]
  obtain ⟨v5_, hv5_⟩ : ∃ z, r_L_size (y1 - ((S.1 8) / 16)) = z := ⟨_, rfl⟩
  rw [hv5_]
  obtain ⟨v6_, hv6_⟩ : ∃ z, r_L_greater v4_ v5_ = z := ⟨_, rfl⟩
  rw [hv6_]
  refine g_istore E (lv' := [(14, .int v), (0, .ref (x 0)), (1, .int x1), (2, .int y1), (3, .int (S.1 9)), (4, .int (x1 - ((S.1 7) / 16))), (5, .int (y1 - ((S.1 8) / 16))), (6, .int v6_), (7, .int (S.1 12)), (8, .int (S.1 13)), (9, .int (S.1 16)), (10, .int (S.1 17)), (11, .int (S.1 20)), (12, .int (S.1 7)), (13, .int (S.1 8))]) dL_isSample_126 (by decide) rfl ?_
  refine g_aload_n E 1 dL_isSample_128 rfl rfl ?_
  refine g_iconst E 0 dL_isSample_129 (by decide) ?_
  refine g_callVi0 E gc_X4_count ml_L_8 (t_X4_count d x a b c e 0 p q S T h t y ss ) rfl rfl (ci := 4) 0 rfl rfl rfl rfl (ok_le rfl) ⟨ok_le rfl, ok_le rfl, ok_le rfl, ok_le rfl⟩ rfl rfl dL_isSample_130 ?_
  refine g_top (b := S.1 21) (count_0 _ _ _) ?_
  refine g_ifle E 170 dL_isSample_133 (by decide) (fun c_133 => ?_) (fun c_133 => ?_)
  · skip
    refine g_iconst E 0 dL_isSample_170 (by decide) ?_
    refine g_lvs (lv' := [(0, .ref (x 0)), (1, .int x1), (2, .int y1), (3, .int (S.1 9)), (4, .int (x1 - ((S.1 7) / 16))), (5, .int (y1 - ((S.1 8) / 16))), (6, .int v6_), (7, .int (S.1 12)), (8, .int (S.1 13)), (9, .int (S.1 16)), (10, .int (S.1 17)), (11, .int (S.1 20)), (12, .int (S.1 7)), (13, .int (S.1 8)), (14, .int v)]) [1, 2, 3, 4, 5, 6, 7, 8, 9, 10, 11, 12, 13, 14, 0] rfl ?_
    subst hv6_
    subst hv5_
    subst hv4_
    exact s_L_isSample_171 d x a b c e x1 y1 p q S T h t y ss hy hu hz 0 v (by first | exact Or.inl rfl | exact Or.inr rfl | assumption) E (fun pc_ lv_ v_ u_ h1_ h2_ h3_ h4_ => RET pc_ lv_ v_ u_ h1_ h2_ (h3_.trans (by rw [r_L_isSample_at126, if_neg c_133])) (h4_.imp (fun _ h5_ => h5_.trans (by rw [c_L_isSample_1_at126, c_L_isSample_y_at126]))))
  · skip
    refine g_iload_n E 2 dL_isSample_136 rfl rfl ?_
    refine g_aload_n E 1 dL_isSample_137 rfl rfl ?_
    refine g_iconst E 0 dL_isSample_138 (by decide) ?_
    refine g_iconst E 2 dL_isSample_139 (by decide) ?_
    refine g_callVi0 E gc_X4_of ml_L_14 (t_X4_of d x a b c e 0 2 p q S T h t y ss ) rfl rfl (ci := 4) 0 rfl rfl rfl rfl (ok_le rfl) ⟨ok_le rfl, ok_le rfl, ok_le rfl, ok_le rfl⟩ rfl rfl dL_isSample_140 ?_
    refine g_top (b := latX S) (of_0_2 _) ?_
    refine g_isub E dL_isSample_143 ?_
    refine g_callSp E gc_L_size ml_L_18 (t_L_size d (x1 - (latX S)) ) rfl rfl rfl (ok_le rfl) ⟨ok_le rfl, ok_le rfl, ok_le rfl, ok_le rfl⟩ rfl rfl dL_isSample_144 ?_
    refine g_nm (fun v18_ hv18_ => ?_)
    refine g_iconst E 2 dL_isSample_147 (by decide) ?_
    refine g_icmpge E 170 dL_isSample_148 (by decide) (fun c_148 => ?_) (fun c_148 => ?_)
    · skip
      refine g_iconst E 0 dL_isSample_170 (by decide) ?_
      refine g_lvs (lv' := [(0, .ref (x 0)), (1, .int x1), (2, .int y1), (3, .int (S.1 9)), (4, .int (x1 - ((S.1 7) / 16))), (5, .int (y1 - ((S.1 8) / 16))), (6, .int v6_), (7, .int (S.1 12)), (8, .int (S.1 13)), (9, .int (S.1 16)), (10, .int (S.1 17)), (11, .int (S.1 20)), (12, .int (S.1 7)), (13, .int (S.1 8)), (14, .int v)]) [1, 2, 3, 4, 5, 6, 7, 8, 9, 10, 11, 12, 13, 14, 0] rfl ?_
      subst hv18_
      subst hv6_
      subst hv5_
      subst hv4_
      exact s_L_isSample_171 d x a b c e x1 y1 p q S T h t y ss hy hu hz 0 v (by first | exact Or.inl rfl | exact Or.inr rfl | assumption) E (fun pc_ lv_ v_ u_ h1_ h2_ h3_ h4_ => RET pc_ lv_ v_ u_ h1_ h2_ (h3_.trans (by rw [r_L_isSample_at126, if_pos c_133, if_neg c_148])) (h4_.imp (fun _ h5_ => h5_.trans (by rw [c_L_isSample_1_at126, c_L_isSample_y_at126]))))
    · skip
      refine g_iload_n E 3 dL_isSample_151 rfl rfl ?_
      refine g_aload_n E 1 dL_isSample_152 rfl rfl ?_
      refine g_iconst E 1 dL_isSample_153 (by decide) ?_
      refine g_iconst E 2 dL_isSample_154 (by decide) ?_
      refine g_callVi0 E gc_X4_of ml_L_14 (t_X4_of d x a b c e 1 2 p q S T h t y ss ) rfl rfl (ci := 4) 0 rfl rfl rfl rfl (ok_le rfl) ⟨ok_le rfl, ok_le rfl, ok_le rfl, ok_le rfl⟩ rfl rfl dL_isSample_155 ?_
      refine g_top (b := latY S) (of_1_2 _) ?_
      refine g_isub E dL_isSample_158 ?_
      refine g_callSp E gc_L_size ml_L_18 (t_L_size d (y1 - (latY S)) ) rfl rfl rfl (ok_le rfl) ⟨ok_le rfl, ok_le rfl, ok_le rfl, ok_le rfl⟩ rfl rfl dL_isSample_159 ?_
      refine g_nm (fun v20_ hv20_ => ?_)
      refine g_iconst E 2 dL_isSample_162 (by decide) ?_
      refine g_icmpge E 170 dL_isSample_163 (by decide) (fun c_163 => ?_) (fun c_163 => ?_)
      · skip
        refine g_iconst E 0 dL_isSample_170 (by decide) ?_
        refine g_lvs (lv' := [(0, .ref (x 0)), (1, .int x1), (2, .int y1), (3, .int (S.1 9)), (4, .int (x1 - ((S.1 7) / 16))), (5, .int (y1 - ((S.1 8) / 16))), (6, .int v6_), (7, .int (S.1 12)), (8, .int (S.1 13)), (9, .int (S.1 16)), (10, .int (S.1 17)), (11, .int (S.1 20)), (12, .int (S.1 7)), (13, .int (S.1 8)), (14, .int v)]) [1, 2, 3, 4, 5, 6, 7, 8, 9, 10, 11, 12, 13, 14, 0] rfl ?_
        subst hv20_
        subst hv18_
        subst hv6_
        subst hv5_
        subst hv4_
        exact s_L_isSample_171 d x a b c e x1 y1 p q S T h t y ss hy hu hz 0 v (by first | exact Or.inl rfl | exact Or.inr rfl | assumption) E (fun pc_ lv_ v_ u_ h1_ h2_ h3_ h4_ => RET pc_ lv_ v_ u_ h1_ h2_ (h3_.trans (by rw [r_L_isSample_at126, if_pos c_133, if_pos c_148, if_neg c_163])) (h4_.imp (fun _ h5_ => h5_.trans (by rw [c_L_isSample_1_at126, c_L_isSample_y_at126]))))
      · skip
        refine g_iconst E 1 dL_isSample_166 (by decide) ?_
        refine g_goto E 171 dL_isSample_167 (by decide) ?_
        refine g_lvs (lv' := [(0, .ref (x 0)), (1, .int x1), (2, .int y1), (3, .int (S.1 9)), (4, .int (x1 - ((S.1 7) / 16))), (5, .int (y1 - ((S.1 8) / 16))), (6, .int v6_), (7, .int (S.1 12)), (8, .int (S.1 13)), (9, .int (S.1 16)), (10, .int (S.1 17)), (11, .int (S.1 20)), (12, .int (S.1 7)), (13, .int (S.1 8)), (14, .int v)]) [1, 2, 3, 4, 5, 6, 7, 8, 9, 10, 11, 12, 13, 14, 0] rfl ?_
        subst hv20_
        subst hv18_
        subst hv6_
        subst hv5_
        subst hv4_
        exact s_L_isSample_171 d x a b c e x1 y1 p q S T h t y ss hy hu hz 1 v (by first | exact Or.inl rfl | exact Or.inr rfl | assumption) E (fun pc_ lv_ v_ u_ h1_ h2_ h3_ h4_ => RET pc_ lv_ v_ u_ h1_ h2_ (h3_.trans (by rw [r_L_isSample_at126, if_pos c_133, if_pos c_148, if_pos c_163])) (h4_.imp (fun _ h5_ => h5_.trans (by rw [c_L_isSample_1_at126, c_L_isSample_y_at126]))))
set_option maxHeartbeats 1000000 in
set_option maxRecDepth 100000 in
theorem s_L_isSample_0 (d : gD) (x : Nat → Nat) (a : Nat → Nat) (b : Nat → Nat) (c : Nat → Nat) (e : Nat → Nat) (x1 : Int32) (y1 : Int32) (p : Nat → Nat → Nat) (q : Nat → Nat → Nat) (S : SS) (T : SS) (h : Nat → Int32) (t : Nat → Int32) (y : HS) (ss : Nat → Option SS) (hy : y.1 < 6 ∧ y.2.1 ≤ 6) (hu : ¬ S.2.2.1 0 < 0) (hz : ¬ S.2.1 0 = 0)  {X : gX} (E : gE d X RL cL_isSample 22 R_L_isSample) (RET : ∀ (pc_ : Nat) (lv_ : List (Nat × Value)) (v_ : Int32) (u_ : va_W), decode cL_isSample pc_ = .ok (.ireturn, 1) → narrow .boolean (.int v_) = .int v_ → v_ = r_L_isSample x1 y1 S y → (∃ p_ : Nat → Nat → Nat, u_ = XW d (x, a, b, c, e) p_ q (c_L_isSample_1 x1 y1 S y) T h t (c_L_isSample_y x1 y1 S y) ss) → G d X u_ R_L_isSample.cells R_L_isSample.slots pc_ lv_ [.int v_]) : G d X (XW d (x, a, b, c, e) p q S T h t y ss) 0 0 0 [(0, .ref (x 0)), (1, .int x1), (2, .int y1)] [] := by
  refine g_aload_n E 0 dL_isSample_0 rfl rfl ?_
  refine g_iconst E 1 dL_isSample_1 (by decide) ?_
  refine g_callVi0 E gc_X4_count ml_L_8 (t_X4_count d x a b c e 1 p q S T h t y ss ) rfl rfl (ci := 4) 0 rfl rfl rfl rfl (ok_le rfl) ⟨ok_le rfl, ok_le rfl, ok_le rfl, ok_le rfl⟩ rfl rfl dL_isSample_2 ?_
  refine g_top (b := S.1 9) (count_1 _ _ _) ?_
  refine g_istore_n E (lv' := [(3, .int (S.1 9)), (0, .ref (x 0)), (1, .int x1), (2, .int y1)]) dL_isSample_5 rfl (by decide) rfl ?_
  refine g_iload_n E 2 dL_isSample_6 rfl rfl ?_
  refine g_aload_n E 1 dL_isSample_7 rfl rfl ?_
  refine g_iconst E 0 dL_isSample_8 (by decide) ?_
  refine g_iconst E 0 dL_isSample_9 (by decide) ?_
  refine g_callVi0 E gc_X4_of ml_L_14 (t_X4_of d x a b c e 0 0 p q S T h t y ss ) rfl rfl (ci := 4) 0 rfl rfl rfl rfl (ok_le rfl) ⟨ok_le rfl, ok_le rfl, ok_le rfl, ok_le rfl⟩ rfl rfl dL_isSample_10 ?_
  refine g_top (b := S.1 7) (of_0_0 _) ?_
  refine g_bipush E 16 dL_isSample_13 (by decide) ?_
  refine g_idiv E dL_isSample_15 (by decide) ?_
  refine g_isub E dL_isSample_16 ?_
  refine g_istore E (lv' := [(4, .int (x1 - ((S.1 7) / 16))), (3, .int (S.1 9)), (0, .ref (x 0)), (1, .int x1), (2, .int y1)]) dL_isSample_17 (by decide) rfl ?_
  refine g_iload_n E 4 dL_isSample_19 rfl rfl ?_
  refine g_aload_n E 2 dL_isSample_20 rfl rfl ?_
  refine g_iconst E 1 dL_isSample_21 (by decide) ?_
  refine g_iconst E 0 dL_isSample_22 (by decide) ?_
  refine g_callVi0 E gc_X4_of ml_L_14 (t_X4_of d x a b c e 1 0 p q S T h t y ss ) rfl rfl (ci := 4) 0 rfl rfl rfl rfl (ok_le rfl) ⟨ok_le rfl, ok_le rfl, ok_le rfl, ok_le rfl⟩ rfl rfl dL_isSample_23 ?_
  refine g_top (b := S.1 8) (of_1_0 _) ?_
  refine g_bipush E 16 dL_isSample_26 (by decide) ?_
  refine g_idiv E dL_isSample_28 (by decide) ?_
  refine g_isub E dL_isSample_29 ?_
  refine g_istore E (lv' := [(5, .int (y1 - ((S.1 8) / 16))), (4, .int (x1 - ((S.1 7) / 16))), (3, .int (S.1 9)), (0, .ref (x 0)), (1, .int x1), (2, .int y1)]) dL_isSample_30 (by decide) rfl ?_
  refine g_iload E 1 dL_isSample_32 rfl ?_
  refine g_callSp E gc_L_size ml_L_18 (t_L_size d (x1 - ((S.1 7) / 16)) ) rfl rfl rfl (ok_le rfl) ⟨ok_le rfl, ok_le rfl, ok_le rfl, ok_le rfl⟩ rfl rfl dL_isSample_34 ?_
  refine g_nm (fun v4_ hv4_ => ?_)
  refine g_iload E 0 dL_isSample_37 rfl ?_
  refine g_callSp E gc_L_size ml_L_18 (t_L_size d (y1 - ((S.1 8) / 16)) ) rfl rfl rfl (ok_le rfl) ⟨ok_le rfl, ok_le rfl, ok_le rfl, ok_le rfl⟩ rfl rfl dL_isSample_39 ?_
  refine g_nm (fun v5_ hv5_ => ?_)
  refine g_callSp E gc_L_greater ml_L_26 (t_L_greater d v4_ v5_ ) rfl rfl rfl (ok_le rfl) ⟨ok_le rfl, ok_le rfl, ok_le rfl, ok_le rfl⟩ rfl rfl dL_isSample_42 ?_
  refine g_nm (fun v6_ hv6_ => ?_)
  refine g_istore E (lv' := [(6, .int v6_), (5, .int (y1 - ((S.1 8) / 16))), (4, .int (x1 - ((S.1 7) / 16))), (3, .int (S.1 9)), (0, .ref (x 0)), (1, .int x1), (2, .int y1)]) dL_isSample_45 (by decide) rfl ?_
  refine g_aload_n E 4 dL_isSample_47 rfl rfl ?_
  refine g_iconst E 2 dL_isSample_48 (by decide) ?_
  refine g_callVi0 E gc_X4_count ml_L_8 (t_X4_count d x a b c e 2 p q S T h t y ss ) rfl rfl (ci := 4) 0 rfl rfl rfl rfl (ok_le rfl) ⟨ok_le rfl, ok_le rfl, ok_le rfl, ok_le rfl⟩ rfl rfl dL_isSample_49 ?_
  refine g_top (b := S.1 12) (count_2 _ _ _) ?_
  refine g_istore E (lv' := [(7, .int (S.1 12)), (6, .int v6_), (5, .int (y1 - ((S.1 8) / 16))), (4, .int (x1 - ((S.1 7) / 16))), (3, .int (S.1 9)), (0, .ref (x 0)), (1, .int x1), (2, .int y1)]) dL_isSample_52 (by decide) rfl ?_
  refine g_aload_n E 5 dL_isSample_54 rfl rfl ?_
  refine g_iconst E 3 dL_isSample_55 (by decide) ?_
  refine g_callVi0 E gc_X4_count ml_L_8 (t_X4_count d x a b c e 3 p q S T h t y ss ) rfl rfl (ci := 4) 0 rfl rfl rfl rfl (ok_le rfl) ⟨ok_le rfl, ok_le rfl, ok_le rfl, ok_le rfl⟩ rfl rfl dL_isSample_56 ?_
  refine g_top (b := S.1 13) (count_3 _ _ _) ?_
  refine g_istore E (lv' := [(8, .int (S.1 13)), (7, .int (S.1 12)), (6, .int v6_), (5, .int (y1 - ((S.1 8) / 16))), (4, .int (x1 - ((S.1 7) / 16))), (3, .int (S.1 9)), (0, .ref (x 0)), (1, .int x1), (2, .int y1)]) dL_isSample_59 (by decide) rfl ?_
  refine g_aload_n E 6 dL_isSample_61 rfl rfl ?_
  refine g_iconst E 4 dL_isSample_62 (by decide) ?_
  refine g_callVi0 E gc_X4_count ml_L_8 (t_X4_count d x a b c e 4 p q S T h t y ss ) rfl rfl (ci := 4) 0 rfl rfl rfl rfl (ok_le rfl) ⟨ok_le rfl, ok_le rfl, ok_le rfl, ok_le rfl⟩ rfl rfl dL_isSample_63 ?_
  refine g_top (b := S.1 16) (count_4 _ _ _) ?_
  refine g_istore E (lv' := [(9, .int (S.1 16)), (8, .int (S.1 13)), (7, .int (S.1 12)), (6, .int v6_), (5, .int (y1 - ((S.1 8) / 16))), (4, .int (x1 - ((S.1 7) / 16))), (3, .int (S.1 9)), (0, .ref (x 0)), (1, .int x1), (2, .int y1)]) dL_isSample_66 (by decide) rfl ?_
  refine g_aload_n E 7 dL_isSample_68 rfl rfl ?_
  refine g_iconst E 5 dL_isSample_69 (by decide) ?_
  refine g_callVi0 E gc_X4_count ml_L_8 (t_X4_count d x a b c e 5 p q S T h t y ss ) rfl rfl (ci := 4) 0 rfl rfl rfl rfl (ok_le rfl) ⟨ok_le rfl, ok_le rfl, ok_le rfl, ok_le rfl⟩ rfl rfl dL_isSample_70 ?_
  refine g_top (b := S.1 17) (count_5 _ _ _) ?_
  refine g_istore E (lv' := [(10, .int (S.1 17)), (9, .int (S.1 16)), (8, .int (S.1 13)), (7, .int (S.1 12)), (6, .int v6_), (5, .int (y1 - ((S.1 8) / 16))), (4, .int (x1 - ((S.1 7) / 16))), (3, .int (S.1 9)), (0, .ref (x 0)), (1, .int x1), (2, .int y1)]) dL_isSample_73 (by decide) rfl ?_
  refine g_aload_n E 8 dL_isSample_75 rfl rfl ?_
  refine g_bipush E 9 dL_isSample_76 (by decide) ?_
  refine g_callVi0 E gc_X4_count ml_L_8 (t_X4_count d x a b c e 9 p q S T h t y ss ) rfl rfl (ci := 4) 0 rfl rfl rfl rfl (ok_le rfl) ⟨ok_le rfl, ok_le rfl, ok_le rfl, ok_le rfl⟩ rfl rfl dL_isSample_78 ?_
  refine g_top (b := S.1 20) (count_9 _ _ _) ?_
  refine g_istore E (lv' := [(11, .int (S.1 20)), (10, .int (S.1 17)), (9, .int (S.1 16)), (8, .int (S.1 13)), (7, .int (S.1 12)), (6, .int v6_), (5, .int (y1 - ((S.1 8) / 16))), (4, .int (x1 - ((S.1 7) / 16))), (3, .int (S.1 9)), (0, .ref (x 0)), (1, .int x1), (2, .int y1)]) dL_isSample_81 (by decide) rfl ?_
  refine g_aload_n E 9 dL_isSample_83 rfl rfl ?_
  refine g_iconst E 0 dL_isSample_84 (by decide) ?_
  refine g_iconst E 0 dL_isSample_85 (by decide) ?_
  refine g_callVi0 E gc_X4_of ml_L_14 (t_X4_of d x a b c e 0 0 p q S T h t y ss ) rfl rfl (ci := 4) 0 rfl rfl rfl rfl (ok_le rfl) ⟨ok_le rfl, ok_le rfl, ok_le rfl, ok_le rfl⟩ rfl rfl dL_isSample_86 ?_
  refine g_top (b := S.1 7) (of_0_0 _) ?_
  refine g_istore E (lv' := [(12, .int (S.1 7)), (11, .int (S.1 20)), (10, .int (S.1 17)), (9, .int (S.1 16)), (8, .int (S.1 13)), (7, .int (S.1 12)), (6, .int v6_), (5, .int (y1 - ((S.1 8) / 16))), (4, .int (x1 - ((S.1 7) / 16))), (3, .int (S.1 9)), (0, .ref (x 0)), (1, .int x1), (2, .int y1)]) dL_isSample_89 (by decide) rfl ?_
  refine g_aload_n E 10 dL_isSample_91 rfl rfl ?_
  refine g_iconst E 1 dL_isSample_92 (by decide) ?_
  refine g_iconst E 0 dL_isSample_93 (by decide) ?_
  refine g_callVi0 E gc_X4_of ml_L_14 (t_X4_of d x a b c e 1 0 p q S T h t y ss ) rfl rfl (ci := 4) 0 rfl rfl rfl rfl (ok_le rfl) ⟨ok_le rfl, ok_le rfl, ok_le rfl, ok_le rfl⟩ rfl rfl dL_isSample_94 ?_
  refine g_top (b := S.1 8) (of_1_0 _) ?_
  refine g_istore E (lv' := [(13, .int (S.1 8)), (12, .int (S.1 7)), (11, .int (S.1 20)), (10, .int (S.1 17)), (9, .int (S.1 16)), (8, .int (S.1 13)), (7, .int (S.1 12)), (6, .int v6_), (5, .int (y1 - ((S.1 8) / 16))), (4, .int (x1 - ((S.1 7) / 16))), (3, .int (S.1 9)), (0, .ref (x 0)), (1, .int x1), (2, .int y1)]) dL_isSample_97 (by decide) rfl ?_
  refine g_aload_n E 11 dL_isSample_99 rfl rfl ?_
  refine g_iconst E 0 dL_isSample_100 (by decide) ?_
  refine g_iconst E 1 dL_isSample_101 (by decide) ?_
  refine g_callVi0 E gc_X4_of ml_L_14 (t_X4_of d x a b c e 0 1 p q S T h t y ss ) rfl rfl (ci := 4) 0 rfl rfl rfl rfl (ok_le rfl) ⟨ok_le rfl, ok_le rfl, ok_le rfl, ok_le rfl⟩ rfl rfl dL_isSample_102 ?_
  refine g_top (b := (S.1 14) + 100) (of_0_1 _) ?_
  refine g_bipush E 100 dL_isSample_105 (by decide) ?_
  refine g_icmpne E 121 dL_isSample_107 (by decide) (fun c_107 => ?_) (fun c_107 => ?_)
  · skip
    refine g_iconst E 1 dL_isSample_121 (by decide) ?_
    refine g_goto E 126 dL_isSample_122 (by decide) ?_
    refine g_lvs (lv' := [(0, .ref (x 0)), (1, .int x1), (2, .int y1), (3, .int (S.1 9)), (4, .int (x1 - ((S.1 7) / 16))), (5, .int (y1 - ((S.1 8) / 16))), (6, .int v6_), (7, .int (S.1 12)), (8, .int (S.1 13)), (9, .int (S.1 16)), (10, .int (S.1 17)), (11, .int (S.1 20)), (12, .int (S.1 7)), (13, .int (S.1 8))]) [11, 12, 13, 10, 9, 8, 7, 6, 5, 4, 3, 2, 1, 0] rfl ?_
    subst hv6_
    subst hv5_
    subst hv4_
    exact s_L_isSample_126 d x a b c e x1 y1 p q S T h t y ss hy hu hz 1 (by first | exact Or.inl rfl | exact Or.inr rfl | assumption) E (fun pc_ lv_ v_ u_ h1_ h2_ h3_ h4_ => RET pc_ lv_ v_ u_ h1_ h2_ (h3_.trans (by rw [r_L_isSample, if_neg c_107])) (h4_.imp (fun _ h5_ => h5_.trans (by rw [c_L_isSample_1, c_L_isSample_y]))))
  · skip
    refine g_aload_n E 11 dL_isSample_110 rfl rfl ?_
    refine g_iconst E 1 dL_isSample_111 (by decide) ?_
    refine g_iconst E 1 dL_isSample_112 (by decide) ?_
    refine g_callVi0 E gc_X4_of ml_L_14 (t_X4_of d x a b c e 1 1 p q S T h t y ss ) rfl rfl (ci := 4) 0 rfl rfl rfl rfl (ok_le rfl) ⟨ok_le rfl, ok_le rfl, ok_le rfl, ok_le rfl⟩ rfl rfl dL_isSample_113 ?_
    refine g_top (b := (S.1 15) + 100) (of_1_1 _) ?_
    refine g_bipush E 100 dL_isSample_116 (by decide) ?_
    refine g_icmpeq E 125 dL_isSample_118 (by decide) (fun c_118 => ?_) (fun c_118 => ?_)
    · skip
      refine g_iconst E 0 dL_isSample_125 (by decide) ?_
      refine g_lvs (lv' := [(0, .ref (x 0)), (1, .int x1), (2, .int y1), (3, .int (S.1 9)), (4, .int (x1 - ((S.1 7) / 16))), (5, .int (y1 - ((S.1 8) / 16))), (6, .int v6_), (7, .int (S.1 12)), (8, .int (S.1 13)), (9, .int (S.1 16)), (10, .int (S.1 17)), (11, .int (S.1 20)), (12, .int (S.1 7)), (13, .int (S.1 8))]) [11, 12, 13, 10, 9, 8, 7, 6, 5, 4, 3, 2, 1, 0] rfl ?_
      subst hv6_
      subst hv5_
      subst hv4_
      exact s_L_isSample_126 d x a b c e x1 y1 p q S T h t y ss hy hu hz 0 (by first | exact Or.inl rfl | exact Or.inr rfl | assumption) E (fun pc_ lv_ v_ u_ h1_ h2_ h3_ h4_ => RET pc_ lv_ v_ u_ h1_ h2_ (h3_.trans (by rw [r_L_isSample, if_pos c_107, if_pos c_118])) (h4_.imp (fun _ h5_ => h5_.trans (by rw [c_L_isSample_1, c_L_isSample_y]))))
    · skip
      refine g_iconst E 1 dL_isSample_121 (by decide) ?_
      refine g_goto E 126 dL_isSample_122 (by decide) ?_
      refine g_lvs (lv' := [(0, .ref (x 0)), (1, .int x1), (2, .int y1), (3, .int (S.1 9)), (4, .int (x1 - ((S.1 7) / 16))), (5, .int (y1 - ((S.1 8) / 16))), (6, .int v6_), (7, .int (S.1 12)), (8, .int (S.1 13)), (9, .int (S.1 16)), (10, .int (S.1 17)), (11, .int (S.1 20)), (12, .int (S.1 7)), (13, .int (S.1 8))]) [11, 12, 13, 10, 9, 8, 7, 6, 5, 4, 3, 2, 1, 0] rfl ?_
      subst hv6_
      subst hv5_
      subst hv4_
      exact s_L_isSample_126 d x a b c e x1 y1 p q S T h t y ss hy hu hz 1 (by first | exact Or.inl rfl | exact Or.inr rfl | assumption) E (fun pc_ lv_ v_ u_ h1_ h2_ h3_ h4_ => RET pc_ lv_ v_ u_ h1_ h2_ (h3_.trans (by rw [r_L_isSample, if_pos c_107, if_neg c_118])) (h4_.imp (fun _ h5_ => h5_.trans (by rw [c_L_isSample_1, c_L_isSample_y]))))
set_option maxHeartbeats 1000000 in
set_option maxRecDepth 100000 in
theorem t_L_isSample (d : gD) (x : Nat → Nat) (a : Nat → Nat) (b : Nat → Nat) (c : Nat → Nat) (e : Nat → Nat) (x1 : Int32) (y1 : Int32) (p : Nat → Nat → Nat) (q : Nat → Nat → Nat) (S : SS) (T : SS) (h : Nat → Int32) (t : Nat → Int32) (y : HS) (ss : Nat → Option SS) (hy : y.1 < 6 ∧ y.2.1 ≤ 6) (hu : ¬ S.2.2.1 0 < 0) (hz : ¬ S.2.1 0 = 0) : gMi d yL_isSample cL_isSample 22 (some .boolean) R_L_isSample [.ref (x 0), .int x1, .int y1] (XW d (x, a, b, c, e) p q S T h t y ss) (fun r_ u_ => r_ = r_L_isSample x1 y1 S y ∧ (∃ p_ : Nat → Nat → Nat, u_ = XW d (x, a, b, c, e) p_ q (c_L_isSample_1 x1 y1 S y) T h t (c_L_isSample_y x1 y1 S y) ss)) :=
  g_met_i RL rfl (by decide +kernel) (Nat.le_of_ble_eq_true rfl) [(0, .ref (x 0)), (1, .int x1), (2, .int y1)] rfl (fun X E RET => s_L_isSample_0 d x a b c e x1 y1 p q S T h t y ss hy hu hz E (fun pc_ lv_ v_ u_ h1_ h2_ h3_ h4_ => RET pc_ lv_ v_ u_ h1_ h2_ ⟨h3_, h4_⟩))
