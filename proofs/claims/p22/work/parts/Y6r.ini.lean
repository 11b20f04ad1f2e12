/-! a new reference -/
def fl_rin : List Value := [.null, .null, .null, .null, .null, .null, .null, .null, .null, .int 0, .int 0, .int 0, .null]
def ml_rin : rS := [.inl (1, [.ref 12, .ref 13, .ref 14, .ref 17, .ref 18, .ref 26, .ref 30, .ref 53, .ref 95, .int 0, .int 0, .int 0, .ref 96]), .inr (1, 262144, .int 0, []), .inr (1, 4, .int 0, []), .inl (13, [.ref 15, .int 0, .ref 16, .int 0, .int 0]), .inr (1, 65536, .int 0, []), .inr (1, 65536, .int 0, []), .inl (15, [.ref 12, .int 0]), .inl (17, [.ref 14, .ref 19, .int 0, .ref 20, .ref 21, .int 0, .int 0, .ref 22, .int 0, .ref 23, .int 0, .ref 24, .int 0, .ref 25, .int 0, .int 0, .int 0]), .inr (1, 65536, .int 0, []), .inr (2, 4, .long 0, []), .inr (1, 16384, .int 0, []), .inr (1, 70000, .int 0, []), .inr (1, 70000, .int 0, []), .inr (1, 131072, .int 0, []), .inr (1, 65536, .int 0, []), .inl (16, [.ref 14, .ref 27, .int 0, .ref 28, .ref 29, .int 0, .int 0, .int 0, .int 0, .int 0, .int 0, .int 0]), .inr (1, 70000, .int 0, []), .inr (1, 16385, .int 0, []), .inr (1, 16385, .int 0, []), .inl (14, [.ref 14, .ref 31, .int 0, .int 0, .int 0, .ref 32, .ref 33, .ref 34, .ref 35, .ref 36, .int 0, .ref 37, .ref 38, .ref 39, .ref 40, .ref 41, .ref 42, .ref 43, .ref 44, .int 0, .ref 45, .ref 46, .ref 47, .ref 48, .ref 49, .int 0, .int 0, .int 0, .int 0, .int 0, .int 0, .int 0, .int 0, .int 0, .int 0, .long 0, .int 0, .ref 50, .ref 51, .int 0, .int 0, .int 0, .int 0, .int 0, .int 0, .int 0, .ref 52]), .inr (1, 65536, .int 0, []), .inr (1, 256, .int 0, []), .inr (1, 192, .int 0, []), .inr (1, 3, .int 0, []), .inr (2, 3, .long 0, []), .inr (1, 256, .int 0, []), .inr (1, 2048, .int 0, []), .inr (1, 192, .int 0, []), .inr (1, 3, .int 0, []), .inr (1, 1536, .int 0, []), .inr (1, 1536, .int 0, []), .inr (1, 1536, .int 0, []), .inr (2, 3, .long 0, []), .inr (1, 256, .int 0, []), .inr (1, 256, .int 0, []), .inr (1, 256, .int 0, []), .inr (1, 64, .int 0, []), .inr (1, 64, .int 0, []), .inr (1, 64, .int 0, []), .inr (1, 65536, .int 0, []), .inr (1, 131072, .int 0, []), .inr (2, 4, .long 0, []), .inl (18, [.ref 14, .int 0, .int 0, .ref 54, .int 0, .int 0, .int 0, .ref 55, .ref 56, .ref 57, .ref 58, .ref 59, .int 0, .ref 60, .ref 61, .ref 62, .ref 63, .int 0, .ref 64, .ref 65, .ref 66, .ref 67, .int 0, .int 0, .int 0, .ref 68, .ref 69, .ref 70, .int 0, .ref 71, .int 0, .ref 72, .ref 73, .ref 74, .ref 75, .int 0, .ref 76, .int 0, .ref 77, .ref 78, .ref 79, .ref 80, .ref 81, .ref 82, .ref 83, .ref 84, .ref 85, .ref 86, .ref 87, .int 0, .ref 88, .ref 89, .ref 90, .int 0, .int 0, .ref 91, .ref 92, .ref 93, .ref 94]), .inr (1, 65536, .int 0, []), .inr (1, 256, .int 0, []), .inr (1, 192, .int 0, []), .inr (1, 3, .int 0, []), .inr (1, 3, .int 0, []), .inr (1, 256, .int 0, []), .inr (1, 192, .int 0, []), .inr (1, 3, .int 0, []), .inr (1, 3, .int 0, []), .inr (1, 256, .int 0, []), .inr (1, 192, .int 0, []), .inr (1, 3, .int 0, []), .inr (1, 3, .int 0, []), .inr (1, 16384, .int 0, []), .inr (1, 8001, .int 0, []), .inr (1, 8001, .int 0, []), .inr (1, 8001, .int 0, []), .inr (1, 16385, .int 0, []), .inr (1, 24003, .int 0, []), .inr (1, 24003, .int 0, []), .inr (1, 24003, .int 0, []), .inr (1, 24000, .int 0, []), .inr (1, 65536, .int 0, []), .inr (1, 2048, .int 0, []), .inr (1, 2048, .int 0, []), .inr (1, 2048, .int 0, []), .inr (1, 64, .int 0, []), .inr (1, 64, .int 0, []), .inr (1, 64, .int 0, []), .inr (3, 64, .int 0, []), .inr (1, 256, .int 0, []), .inr (1, 256, .int 0, []), .inr (1, 512, .int 0, []), .inr (1, 512, .int 0, []), .inr (1, 256, .int 0, []), .inr (1, 2048, .int 0, []), .inr (1, 257, .int 0, []), .inr (1, 12, .int 0, []), .inr (2, 4, .long 0, []), .inr (1, 12, .int 0, []), .inr (1, 12, .int 0, []), .inr (1, 10, .int 0, [(0, .int 2), (1, .int 4), (2, .int 65536), (3, .int 100), (4, .int 4), (7, .int 3), (8, .int 6)]), .inr (1, 5, .int 0, [])]
theorem ev_rin : mrun 437 2 55 0 (rargs 0 [.ref 11]) [] (mstat ++ [.inl (1, fl_rin)]) 0 0 = some (none, mstat ++ ml_rin, 85, 1481103) := meq_of (by decide +kernel)
def κ_rin : List Nat := [11, 14, 17, 18, 26, 30, 53, 0, 0, 0, 12, 13, 95, 96, 15, 16, 19, 20, 21, 22, 23, 24, 25, 27, 28, 29, 31, 32, 33, 34, 35, 36, 37, 38, 39, 40, 41, 42, 43, 44, 45, 46, 47, 48, 49, 50, 51, 52, 54, 55, 56, 57, 58, 59, 60, 61, 62, 63, 64, 65, 66, 67, 68, 69, 70, 71, 72, 73, 74, 75, 76, 77, 78, 79, 80, 81, 82, 83, 84, 85, 86, 87, 88, 89, 90, 91, 92, 93, 94]
theorem hz_rin : hzall κ_rin (mstat ++ ml_rin) = true := by decide +kernel
theorem t_flo1_0 {k : Nat} (h : 13 ≤ k) : t_flo1 k = 0 := by
  unfold t_flo1
  rw [beqf (show k ≠ 0 by omega), beqf (show k ≠ 1 by omega), beqf (show k ≠ 2 by omega), beqf (show k ≠ 3 by omega), beqf (show k ≠ 4 by omega), beqf (show k ≠ 5 by omega), beqf (show k ≠ 6 by omega), beqf (show k ≠ 7 by omega), beqf (show k ≠ 8 by omega), beqf (show k ≠ 9 by omega), beqf (show k ≠ 10 by omega), beqf (show k ≠ 11 by omega), beqf (show k ≠ 12 by omega)]
  rfl
theorem t_fhi1_0 {k : Nat} (h : 13 ≤ k) : t_fhi1 k = 0 := by
  unfold t_fhi1
  rw [beqf (show k ≠ 0 by omega), beqf (show k ≠ 1 by omega), beqf (show k ≠ 2 by omega), beqf (show k ≠ 3 by omega), beqf (show k ≠ 4 by omega), beqf (show k ≠ 5 by omega), beqf (show k ≠ 6 by omega), beqf (show k ≠ 7 by omega), beqf (show k ≠ 8 by omega), beqf (show k ≠ 9 by omega), beqf (show k ≠ 10 by omega), beqf (show k ≠ 11 by omega), beqf (show k ≠ 12 by omega)]
  rfl
theorem t_flo13_0 {k : Nat} (h : 5 ≤ k) : t_flo13 k = 0 := by
  unfold t_flo13
  rw [beqf (show k ≠ 0 by omega), beqf (show k ≠ 1 by omega), beqf (show k ≠ 2 by omega), beqf (show k ≠ 3 by omega), beqf (show k ≠ 4 by omega)]
  rfl
theorem t_fhi13_0 {k : Nat} (h : 5 ≤ k) : t_fhi13 k = 0 := by
  unfold t_fhi13
  rw [beqf (show k ≠ 0 by omega), beqf (show k ≠ 1 by omega), beqf (show k ≠ 2 by omega), beqf (show k ≠ 3 by omega), beqf (show k ≠ 4 by omega)]
  rfl
theorem t_flo15_0 {k : Nat} (h : 2 ≤ k) : t_flo15 k = 0 := by
  unfold t_flo15
  rw [beqf (show k ≠ 0 by omega), beqf (show k ≠ 1 by omega)]
  rfl
theorem t_fhi15_0 {k : Nat} (h : 2 ≤ k) : t_fhi15 k = 0 := by
  unfold t_fhi15
  rw [beqf (show k ≠ 0 by omega), beqf (show k ≠ 1 by omega)]
  rfl
theorem t_flo17_0 {k : Nat} (h : 17 ≤ k) : t_flo17 k = 0 := by
  unfold t_flo17
  rw [beqf (show k ≠ 0 by omega), beqf (show k ≠ 1 by omega), beqf (show k ≠ 2 by omega), beqf (show k ≠ 3 by omega), beqf (show k ≠ 4 by omega), beqf (show k ≠ 5 by omega), beqf (show k ≠ 6 by omega), beqf (show k ≠ 7 by omega), beqf (show k ≠ 8 by omega), beqf (show k ≠ 9 by omega), beqf (show k ≠ 10 by omega), beqf (show k ≠ 11 by omega), beqf (show k ≠ 12 by omega), beqf (show k ≠ 13 by omega), beqf (show k ≠ 14 by omega), beqf (show k ≠ 15 by omega), beqf (show k ≠ 16 by omega)]
  rfl
theorem t_fhi17_0 {k : Nat} (h : 17 ≤ k) : t_fhi17 k = 0 := by
  unfold t_fhi17
  rw [beqf (show k ≠ 0 by omega), beqf (show k ≠ 1 by omega), beqf (show k ≠ 2 by omega), beqf (show k ≠ 3 by omega), beqf (show k ≠ 4 by omega), beqf (show k ≠ 5 by omega), beqf (show k ≠ 6 by omega), beqf (show k ≠ 7 by omega), beqf (show k ≠ 8 by omega), beqf (show k ≠ 9 by omega), beqf (show k ≠ 10 by omega), beqf (show k ≠ 11 by omega), beqf (show k ≠ 12 by omega), beqf (show k ≠ 13 by omega), beqf (show k ≠ 14 by omega), beqf (show k ≠ 15 by omega), beqf (show k ≠ 16 by omega)]
  rfl
theorem t_flo16_0 {k : Nat} (h : 12 ≤ k) : t_flo16 k = 0 := by
  unfold t_flo16
  rw [beqf (show k ≠ 0 by omega), beqf (show k ≠ 1 by omega), beqf (show k ≠ 2 by omega), beqf (show k ≠ 3 by omega), beqf (show k ≠ 4 by omega), beqf (show k ≠ 5 by omega), beqf (show k ≠ 6 by omega), beqf (show k ≠ 7 by omega), beqf (show k ≠ 8 by omega), beqf (show k ≠ 9 by omega), beqf (show k ≠ 10 by omega), beqf (show k ≠ 11 by omega)]
  rfl
theorem t_fhi16_0 {k : Nat} (h : 12 ≤ k) : t_fhi16 k = 0 := by
  unfold t_fhi16
  rw [beqf (show k ≠ 0 by omega), beqf (show k ≠ 1 by omega), beqf (show k ≠ 2 by omega), beqf (show k ≠ 3 by omega), beqf (show k ≠ 4 by omega), beqf (show k ≠ 5 by omega), beqf (show k ≠ 6 by omega), beqf (show k ≠ 7 by omega), beqf (show k ≠ 8 by omega), beqf (show k ≠ 9 by omega), beqf (show k ≠ 10 by omega), beqf (show k ≠ 11 by omega)]
  rfl
theorem t_flo14_0 {k : Nat} (h : 47 ≤ k) : t_flo14 k = 0 := by
  unfold t_flo14
  rw [beqf (show k ≠ 0 by omega), beqf (show k ≠ 1 by omega), beqf (show k ≠ 2 by omega), beqf (show k ≠ 3 by omega), beqf (show k ≠ 4 by omega), beqf (show k ≠ 5 by omega), beqf (show k ≠ 6 by omega), beqf (show k ≠ 7 by omega), beqf (show k ≠ 8 by omega), beqf (show k ≠ 9 by omega), beqf (show k ≠ 10 by omega), beqf (show k ≠ 11 by omega), beqf (show k ≠ 12 by omega), beqf (show k ≠ 13 by omega), beqf (show k ≠ 14 by omega), beqf (show k ≠ 15 by omega), beqf (show k ≠ 16 by omega), beqf (show k ≠ 17 by omega), beqf (show k ≠ 18 by omega), beqf (show k ≠ 19 by omega), beqf (show k ≠ 20 by omega), beqf (show k ≠ 21 by omega), beqf (show k ≠ 22 by omega), beqf (show k ≠ 23 by omega), beqf (show k ≠ 24 by omega), beqf (show k ≠ 25 by omega), beqf (show k ≠ 26 by omega), beqf (show k ≠ 27 by omega), beqf (show k ≠ 28 by omega), beqf (show k ≠ 29 by omega), beqf (show k ≠ 30 by omega), beqf (show k ≠ 31 by omega), beqf (show k ≠ 32 by omega), beqf (show k ≠ 33 by omega), beqf (show k ≠ 34 by omega), beqf (show k ≠ 35 by omega), beqf (show k ≠ 36 by omega), beqf (show k ≠ 37 by omega), beqf (show k ≠ 38 by omega), beqf (show k ≠ 39 by omega), beqf (show k ≠ 40 by omega), beqf (show k ≠ 41 by omega), beqf (show k ≠ 42 by omega), beqf (show k ≠ 43 by omega), beqf (show k ≠ 44 by omega), beqf (show k ≠ 45 by omega), beqf (show k ≠ 46 by omega)]
  rfl
theorem t_fhi14_0 {k : Nat} (h : 47 ≤ k) : t_fhi14 k = 0 := by
  unfold t_fhi14
  rw [beqf (show k ≠ 0 by omega), beqf (show k ≠ 1 by omega), beqf (show k ≠ 2 by omega), beqf (show k ≠ 3 by omega), beqf (show k ≠ 4 by omega), beqf (show k ≠ 5 by omega), beqf (show k ≠ 6 by omega), beqf (show k ≠ 7 by omega), beqf (show k ≠ 8 by omega), beqf (show k ≠ 9 by omega), beqf (show k ≠ 10 by omega), beqf (show k ≠ 11 by omega), beqf (show k ≠ 12 by omega), beqf (show k ≠ 13 by omega), beqf (show k ≠ 14 by omega), beqf (show k ≠ 15 by omega), beqf (show k ≠ 16 by omega), beqf (show k ≠ 17 by omega), beqf (show k ≠ 18 by omega), beqf (show k ≠ 19 by omega), beqf (show k ≠ 20 by omega), beqf (show k ≠ 21 by omega), beqf (show k ≠ 22 by omega), beqf (show k ≠ 23 by omega), beqf (show k ≠ 24 by omega), beqf (show k ≠ 25 by omega), beqf (show k ≠ 26 by omega), beqf (show k ≠ 27 by omega), beqf (show k ≠ 28 by omega), beqf (show k ≠ 29 by omega), beqf (show k ≠ 30 by omega), beqf (show k ≠ 31 by omega), beqf (show k ≠ 32 by omega), beqf (show k ≠ 33 by omega), beqf (show k ≠ 34 by omega), beqf (show k ≠ 35 by omega), beqf (show k ≠ 36 by omega), beqf (show k ≠ 37 by omega), beqf (show k ≠ 38 by omega), beqf (show k ≠ 39 by omega), beqf (show k ≠ 40 by omega), beqf (show k ≠ 41 by omega), beqf (show k ≠ 42 by omega), beqf (show k ≠ 43 by omega), beqf (show k ≠ 44 by omega), beqf (show k ≠ 45 by omega), beqf (show k ≠ 46 by omega)]
  rfl
theorem t_flo18_0 {k : Nat} (h : 59 ≤ k) : t_flo18 k = 0 := by
  unfold t_flo18
  rw [beqf (show k ≠ 0 by omega), beqf (show k ≠ 1 by omega), beqf (show k ≠ 2 by omega), beqf (show k ≠ 3 by omega), beqf (show k ≠ 4 by omega), beqf (show k ≠ 5 by omega), beqf (show k ≠ 6 by omega), beqf (show k ≠ 7 by omega), beqf (show k ≠ 8 by omega), beqf (show k ≠ 9 by omega), beqf (show k ≠ 10 by omega), beqf (show k ≠ 11 by omega), beqf (show k ≠ 12 by omega), beqf (show k ≠ 13 by omega), beqf (show k ≠ 14 by omega), beqf (show k ≠ 15 by omega), beqf (show k ≠ 16 by omega), beqf (show k ≠ 17 by omega), beqf (show k ≠ 18 by omega), beqf (show k ≠ 19 by omega), beqf (show k ≠ 20 by omega), beqf (show k ≠ 21 by omega), beqf (show k ≠ 22 by omega), beqf (show k ≠ 23 by omega), beqf (show k ≠ 24 by omega), beqf (show k ≠ 25 by omega), beqf (show k ≠ 26 by omega), beqf (show k ≠ 27 by omega), beqf (show k ≠ 28 by omega), beqf (show k ≠ 29 by omega), beqf (show k ≠ 30 by omega), beqf (show k ≠ 31 by omega), beqf (show k ≠ 32 by omega), beqf (show k ≠ 33 by omega), beqf (show k ≠ 34 by omega), beqf (show k ≠ 35 by omega), beqf (show k ≠ 36 by omega), beqf (show k ≠ 37 by omega), beqf (show k ≠ 38 by omega), beqf (show k ≠ 39 by omega), beqf (show k ≠ 40 by omega), beqf (show k ≠ 41 by omega), beqf (show k ≠ 42 by omega), beqf (show k ≠ 43 by omega), beqf (show k ≠ 44 by omega), beqf (show k ≠ 45 by omega), beqf (show k ≠ 46 by omega), beqf (show k ≠ 47 by omega), beqf (show k ≠ 48 by omega), beqf (show k ≠ 49 by omega), beqf (show k ≠ 50 by omega), beqf (show k ≠ 51 by omega), beqf (show k ≠ 52 by omega), beqf (show k ≠ 53 by omega), beqf (show k ≠ 54 by omega), beqf (show k ≠ 55 by omega), beqf (show k ≠ 56 by omega), beqf (show k ≠ 57 by omega), beqf (show k ≠ 58 by omega)]
  rfl
theorem t_fhi18_0 {k : Nat} (h : 59 ≤ k) : t_fhi18 k = 0 := by
  unfold t_fhi18
  rw [beqf (show k ≠ 0 by omega), beqf (show k ≠ 1 by omega), beqf (show k ≠ 2 by omega), beqf (show k ≠ 3 by omega), beqf (show k ≠ 4 by omega), beqf (show k ≠ 5 by omega), beqf (show k ≠ 6 by omega), beqf (show k ≠ 7 by omega), beqf (show k ≠ 8 by omega), beqf (show k ≠ 9 by omega), beqf (show k ≠ 10 by omega), beqf (show k ≠ 11 by omega), beqf (show k ≠ 12 by omega), beqf (show k ≠ 13 by omega), beqf (show k ≠ 14 by omega), beqf (show k ≠ 15 by omega), beqf (show k ≠ 16 by omega), beqf (show k ≠ 17 by omega), beqf (show k ≠ 18 by omega), beqf (show k ≠ 19 by omega), beqf (show k ≠ 20 by omega), beqf (show k ≠ 21 by omega), beqf (show k ≠ 22 by omega), beqf (show k ≠ 23 by omega), beqf (show k ≠ 24 by omega), beqf (show k ≠ 25 by omega), beqf (show k ≠ 26 by omega), beqf (show k ≠ 27 by omega), beqf (show k ≠ 28 by omega), beqf (show k ≠ 29 by omega), beqf (show k ≠ 30 by omega), beqf (show k ≠ 31 by omega), beqf (show k ≠ 32 by omega), beqf (show k ≠ 33 by omega), beqf (show k ≠ 34 by omega), beqf (show k ≠ 35 by omega), beqf (show k ≠ 36 by omega), beqf (show k ≠ 37 by omega), beqf (show k ≠ 38 by omega), beqf (show k ≠ 39 by omega), beqf (show k ≠ 40 by omega), beqf (show k ≠ 41 by omega), beqf (show k ≠ 42 by omega), beqf (show k ≠ 43 by omega), beqf (show k ≠ 44 by omega), beqf (show k ≠ 45 by omega), beqf (show k ≠ 46 by omega), beqf (show k ≠ 47 by omega), beqf (show k ≠ 48 by omega), beqf (show k ≠ 49 by omega), beqf (show k ≠ 50 by omega), beqf (show k ≠ 51 by omega), beqf (show k ≠ 52 by omega), beqf (show k ≠ 53 by omega), beqf (show k ≠ 54 by omega), beqf (show k ≠ 55 by omega), beqf (show k ≠ 56 by omega), beqf (show k ≠ 57 by omega), beqf (show k ≠ 58 by omega)]
  rfl
theorem t_f0 (o k : Nat) (h : ¬ (o < 7 ∧ k < t_nf (t_cls o))) : t_flo (t_cls o) k = 0 ∧ t_fhi (t_cls o) k = 0 := by
  by_cases h7 : o < 7
  · rcases (show o = 0 ∨ o = 1 ∨ o = 2 ∨ o = 3 ∨ o = 4 ∨ o = 5 ∨ o = 6 by omega) with rfl | rfl | rfl | rfl | rfl | rfl | rfl
    · have hk : 13 ≤ k := by have : ¬ k < 13 := fun q => h ⟨h7, q⟩; omega
      exact ⟨t_flo1_0 hk, t_fhi1_0 hk⟩
    · have hk : 5 ≤ k := by have : ¬ k < 5 := fun q => h ⟨h7, q⟩; omega
      exact ⟨t_flo13_0 hk, t_fhi13_0 hk⟩
    · have hk : 2 ≤ k := by have : ¬ k < 2 := fun q => h ⟨h7, q⟩; omega
      exact ⟨t_flo15_0 hk, t_fhi15_0 hk⟩
    · have hk : 17 ≤ k := by have : ¬ k < 17 := fun q => h ⟨h7, q⟩; omega
      exact ⟨t_flo17_0 hk, t_fhi17_0 hk⟩
    · have hk : 12 ≤ k := by have : ¬ k < 12 := fun q => h ⟨h7, q⟩; omega
      exact ⟨t_flo16_0 hk, t_fhi16_0 hk⟩
    · have hk : 47 ≤ k := by have : ¬ k < 47 := fun q => h ⟨h7, q⟩; omega
      exact ⟨t_flo14_0 hk, t_fhi14_0 hk⟩
    · have hk : 59 ≤ k := by have : ¬ k < 59 := fun q => h ⟨h7, q⟩; omega
      exact ⟨t_flo18_0 hk, t_fhi18_0 hk⟩
  · have e : t_cls o = 0 := by
      unfold t_cls
      rw [beqf (show o ≠ 0 by omega), beqf (show o ≠ 1 by omega), beqf (show o ≠ 2 by omega), beqf (show o ≠ 3 by omega), beqf (show o ≠ 4 by omega), beqf (show o ≠ 5 by omega), beqf (show o ≠ 6 by omega)]
      rfl
    rw [e]
    exact ⟨rfl, rfl⟩
theorem RT_0 : RT (fun _ => 0) (fun _ => 0) (fun _ => 0) (fun _ => 0) := fun t h0 h1 => .inr ⟨by first | exact Int.le_refl (0 : Int) | exact (by decide : (0 : Int) ≤ 9) | exact (by decide : (0 : Int) ≤ 512) | exact (by decide : (0 : Int) ≤ 511), by first | exact Int.le_refl (0 : Int) | exact (by decide : (0 : Int) ≤ 9) | exact (by decide : (0 : Int) ≤ 512) | exact (by decide : (0 : Int) ≤ 511), fun k k0 k1 => ⟨by first | exact Int.le_refl (0 : Int) | exact (by decide : (0 : Int) ≤ 9) | exact (by decide : (0 : Int) ≤ 512) | exact (by decide : (0 : Int) ≤ 511), by have := lastOf_eq t; show (0 : Int) ≤ lastOf t; omega, by first | exact Int.le_refl (0 : Int) | exact (by decide : (0 : Int) ≤ 9) | exact (by decide : (0 : Int) ≤ 512) | exact (by decide : (0 : Int) ≤ 511), by first | exact Int.le_refl (0 : Int) | exact (by decide : (0 : Int) ≤ 9) | exact (by decide : (0 : Int) ≤ 512) | exact (by decide : (0 : Int) ≤ 511), by first | exact Int.le_refl (0 : Int) | exact (by decide : (0 : Int) ≤ 9) | exact (by decide : (0 : Int) ≤ 512) | exact (by decide : (0 : Int) ≤ 511), by first | exact Int.le_refl (0 : Int) | exact (by decide : (0 : Int) ≤ 9) | exact (by decide : (0 : Int) ≤ 512) | exact (by decide : (0 : Int) ≤ 511)⟩⟩
theorem ce_rin_24 : rat (mstat ++ ml_rin) (κ_rin.getD 24 0) = some (.inr (1, 16385, .int 0, [])) := (rat_mst (l := ml_rin) (i := 17)).trans rfl
theorem ce_rin_25 : rat (mstat ++ ml_rin) (κ_rin.getD 25 0) = some (.inr (1, 16385, .int 0, [])) := (rat_mst (l := ml_rin) (i := 18)).trans rfl
theorem ce_rin_27 : rat (mstat ++ ml_rin) (κ_rin.getD 27 0) = some (.inr (1, 256, .int 0, [])) := (rat_mst (l := ml_rin) (i := 21)).trans rfl
theorem ce_rin_28 : rat (mstat ++ ml_rin) (κ_rin.getD 28 0) = some (.inr (1, 192, .int 0, [])) := (rat_mst (l := ml_rin) (i := 22)).trans rfl
theorem ce_rin_29 : rat (mstat ++ ml_rin) (κ_rin.getD 29 0) = some (.inr (1, 3, .int 0, [])) := (rat_mst (l := ml_rin) (i := 23)).trans rfl
theorem ce_rin_30 : rat (mstat ++ ml_rin) (κ_rin.getD 30 0) = some (.inr (2, 3, .long 0, [])) := (rat_mst (l := ml_rin) (i := 24)).trans rfl
theorem ce_rin_34 : rat (mstat ++ ml_rin) (κ_rin.getD 34 0) = some (.inr (1, 3, .int 0, [])) := (rat_mst (l := ml_rin) (i := 28)).trans rfl
theorem ce_rin_35 : rat (mstat ++ ml_rin) (κ_rin.getD 35 0) = some (.inr (1, 1536, .int 0, [])) := (rat_mst (l := ml_rin) (i := 29)).trans rfl
theorem ce_rin_36 : rat (mstat ++ ml_rin) (κ_rin.getD 36 0) = some (.inr (1, 1536, .int 0, [])) := (rat_mst (l := ml_rin) (i := 30)).trans rfl
theorem ce_rin_37 : rat (mstat ++ ml_rin) (κ_rin.getD 37 0) = some (.inr (1, 1536, .int 0, [])) := (rat_mst (l := ml_rin) (i := 31)).trans rfl
theorem ce_rin_49 : rat (mstat ++ ml_rin) (κ_rin.getD 49 0) = some (.inr (1, 256, .int 0, [])) := (rat_mst (l := ml_rin) (i := 44)).trans rfl
theorem ce_rin_50 : rat (mstat ++ ml_rin) (κ_rin.getD 50 0) = some (.inr (1, 192, .int 0, [])) := (rat_mst (l := ml_rin) (i := 45)).trans rfl
theorem ce_rin_51 : rat (mstat ++ ml_rin) (κ_rin.getD 51 0) = some (.inr (1, 3, .int 0, [])) := (rat_mst (l := ml_rin) (i := 46)).trans rfl
set_option maxRecDepth 100000 in
theorem RHI_ini {σ σₚ : rS} (h12 : 12 ≤ σ.length) (hI : mI mnu0 (mr0 σ.length) 12 (σ.length + 1) (σ ++ [.inl (1, fl_rin)]) (mstat ++ ml_rin) σₚ) : RHI σₚ (hzD (mr0 σ.length) κ_rin) (hzN κ_rin (mstat ++ ml_rin)) (hzF κ_rin (mstat ++ ml_rin)) (hzA κ_rin (mstat ++ ml_rin)) := by
  have a24 : (hzA κ_rin (mstat ++ ml_rin)) 24 = fun _ => 0 := hzA_0 ce_rin_24 rfl
  have a25 : (hzA κ_rin (mstat ++ ml_rin)) 25 = fun _ => 0 := hzA_0 ce_rin_25 rfl
  have a27 : (hzA κ_rin (mstat ++ ml_rin)) 27 = fun _ => 0 := hzA_0 ce_rin_27 rfl
  have a28 : (hzA κ_rin (mstat ++ ml_rin)) 28 = fun _ => 0 := hzA_0 ce_rin_28 rfl
  have a29 : (hzA κ_rin (mstat ++ ml_rin)) 29 = fun _ => 0 := hzA_0 ce_rin_29 rfl
  have a30 : (hzA κ_rin (mstat ++ ml_rin)) 30 = fun _ => 0 := hzA_0 ce_rin_30 rfl
  have a34 : (hzA κ_rin (mstat ++ ml_rin)) 34 = fun _ => 0 := hzA_0 ce_rin_34 rfl
  have a35 : (hzA κ_rin (mstat ++ ml_rin)) 35 = fun _ => 0 := hzA_0 ce_rin_35 rfl
  have a36 : (hzA κ_rin (mstat ++ ml_rin)) 36 = fun _ => 0 := hzA_0 ce_rin_36 rfl
  have a37 : (hzA κ_rin (mstat ++ ml_rin)) 37 = fun _ => 0 := hzA_0 ce_rin_37 rfl
  have a49 : (hzA κ_rin (mstat ++ ml_rin)) 49 = fun _ => 0 := hzA_0 ce_rin_49 rfl
  have a50 : (hzA κ_rin (mstat ++ ml_rin)) 50 = fun _ => 0 := hzA_0 ce_rin_50 rfl
  have a51 : (hzA κ_rin (mstat ++ ml_rin)) 51 = fun _ => 0 := hzA_0 ce_rin_51 rfl
  have f4_5 : (hzF κ_rin (mstat ++ ml_rin)) 4 5 = 0 := rfl
  have f5_2 : (hzF κ_rin (mstat ++ ml_rin)) 5 2 = 0 := rfl
  have f5_4 : (hzF κ_rin (mstat ++ ml_rin)) 5 4 = 0 := rfl
  have f6_4 : (hzF κ_rin (mstat ++ ml_rin)) 6 4 = 0 := rfl
  have f6_6 : (hzF κ_rin (mstat ++ ml_rin)) 6 6 = 0 := rfl
  exact ⟨mHS (mr0_F h12) hI hz_rin t_z t_f0, (show RT (((hzA κ_rin (mstat ++ ml_rin)) 35)) (((hzA κ_rin (mstat ++ ml_rin)) 36)) (((hzA κ_rin (mstat ++ ml_rin)) 37)) (((hzA κ_rin (mstat ++ ml_rin)) 34)) by rw [a34, a35, a36, a37]; exact RT_0), (show DI (((hzF κ_rin (mstat ++ ml_rin)) 5 4)) (((hzA κ_rin (mstat ++ ml_rin)) 27)) (((hzA κ_rin (mstat ++ ml_rin)) 28)) (((hzA κ_rin (mstat ++ ml_rin)) 29)) (((hzA κ_rin (mstat ++ ml_rin)) 30)) by rw [f5_4, a27, a28, a29, a30]; exact fun q => absurd q (by decide)), (show DW (((hzF κ_rin (mstat ++ ml_rin)) 6 6)) (((hzA κ_rin (mstat ++ ml_rin)) 49)) (((hzA κ_rin (mstat ++ ml_rin)) 50)) (((hzA κ_rin (mstat ++ ml_rin)) 51)) by rw [f6_6, a49, a50, a51]; exact fun q => absurd q (by decide)), (show SE (((hzA κ_rin (mstat ++ ml_rin)) 12)) by unfold SE; decide +kernel), (show ((hzF κ_rin (mstat ++ ml_rin)) 6 4) = ((hzF κ_rin (mstat ++ ml_rin)) 5 2) by rw [f5_2, f6_4]), (show KQ bN (((hzA κ_rin (mstat ++ ml_rin)) 24)) (((hzF κ_rin (mstat ++ ml_rin)) 4 5)) by rw [f4_5, a24]; exact ⟨rfl, fun l h1 h2 => absurd h2 (by omega)⟩), (show KQ bF (((hzA κ_rin (mstat ++ ml_rin)) 25)) (((hzF κ_rin (mstat ++ ml_rin)) 4 5)) by rw [f4_5, a25]; exact ⟨rfl, fun l h1 h2 => absurd h2 (by omega)⟩)⟩
