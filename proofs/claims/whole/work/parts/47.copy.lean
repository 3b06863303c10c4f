theorem cpy_in {f g : Nat → Int32} {n k : Nat} (h : k < n) : va_cpy f g 0 0 n k = f k := by
  unfold va_cpy
  rw [if_pos ⟨Nat.zero_le _, by omega⟩, Nat.zero_add, Nat.sub_zero]
theorem mcp_n1 {S : Mm} {o : Nat} (h : o < 20 ∨ 21 < o) : mX10_copy_1 S o = S o := by
  unfold mX10_copy_1
  rw [upR_n (by omega), upR_n (by omega)]
theorem mcp_n2 {S : Mm} {o : Nat} (h : o < 20 ∨ 22 < o) : mX10_copy_2 S o = S o := by
  unfold mX10_copy_2
  rw [upR_n (by omega), mcp_n1 (by omega)]
theorem mcp_n3 {S : Mm} {o : Nat} (h : o < 20 ∨ 23 < o) : mX10_copy_3 S o = S o := by
  unfold mX10_copy_3
  rw [upR_n (by omega), mcp_n2 (by omega)]
theorem mcp_n4 {S : Mm} {o : Nat} (h : o < 20 ∨ 24 < o) : mX10_copy_4 S o = S o := by
  unfold mX10_copy_4
  rw [upR_n (by omega), mcp_n3 (by omega)]
theorem mcp_n5 {S : Mm} {o : Nat} (h : o < 20 ∨ 25 < o) : mX10_copy_5 S o = S o := by
  unfold mX10_copy_5
  rw [upR_n (by omega), mcp_n4 (by omega)]
theorem mcp_n6 {S : Mm} {o : Nat} (h : o < 20 ∨ 26 < o) : mX10_copy_6 S o = S o := by
  unfold mX10_copy_6
  rw [upR_n (by omega), mcp_n5 (by omega)]
theorem mcp_n7 {S : Mm} {o : Nat} (h : o < 20 ∨ 27 < o) : mX10_copy_7 S o = S o := by
  unfold mX10_copy_7
  rw [upR_n (by omega), mcp_n6 (by omega)]
theorem mcp_n8 {S : Mm} {o : Nat} (h : o < 20 ∨ 28 < o) : mX10_copy_8 S o = S o := by
  unfold mX10_copy_8
  rw [upR_n (by omega), mcp_n7 (by omega)]
theorem mcp_n9 {S : Mm} {o : Nat} (h : o < 20 ∨ 29 < o) : mX10_copy_9 S o = S o := by
  unfold mX10_copy_9
  rw [upR_n (by omega), mcp_n8 (by omega)]
theorem mcp_n10 {S : Mm} {o : Nat} (h : o < 20 ∨ 30 < o) : mX10_copy_10 S o = S o := by
  unfold mX10_copy_10
  rw [upR_n (by omega), mcp_n9 (by omega)]
theorem mcp_n11 {S : Mm} {o : Nat} (h : o < 20 ∨ 31 < o) : mX10_copy_11 S o = S o := by
  unfold mX10_copy_11
  rw [upR_n (by omega), mcp_n10 (by omega)]
theorem mcp_n12 {S : Mm} {o : Nat} (h : o < 20 ∨ 32 < o) : mX10_copy_12 S o = S o := by
  unfold mX10_copy_12
  rw [upR_n (by omega), mcp_n11 (by omega)]
theorem mcp_n13 {S : Mm} {o : Nat} (h : o < 20 ∨ 33 < o) : mX10_copy_13 S o = S o := by
  unfold mX10_copy_13
  rw [upR_n (by omega), mcp_n12 (by omega)]
theorem mcp_n14 {S : Mm} {o : Nat} (h : o < 20 ∨ 34 < o) : mX10_copy_14 S o = S o := by
  unfold mX10_copy_14
  rw [upR_n (by omega), mcp_n13 (by omega)]
theorem mcp_n15 {S : Mm} {o : Nat} (h : o < 20 ∨ 35 < o) : mX10_copy_15 S o = S o := by
  unfold mX10_copy_15
  rw [upR_n (by omega), mcp_n14 (by omega)]
theorem mcp_n16 {S : Mm} {o : Nat} (h : o < 20 ∨ 36 < o) : mX10_copy_16 S o = S o := by
  unfold mX10_copy_16
  rw [upR_n (by omega), mcp_n15 (by omega)]
theorem mcp_s17 {S : Mm} {o : Nat} (h : o ≠ 19) : fX10_copy S o = mX10_copy_16 S o := by
  unfold fX10_copy
  rw [up2_n h]
  unfold mX10_copy_22
  rw [up2_n h, up2_n h]
  unfold mX10_copy_21
  rw [up2_n h, up2_n h]
  unfold mX10_copy_20
  rw [up2_n h, up2_n h]
  unfold mX10_copy_19
  rw [up2_n h, up2_n h]
  unfold mX10_copy_18
  rw [up2_n h, up2_n h]
  unfold mX10_copy_17
  rw [up2_n h, up2_n h]
theorem cpD_1 {S : Mm} {k : Nat} (h : k < 32) : cpD S 1 k = S 1 k := by
  show fX10_copy (jn S SD0) 20 k = _
  rw [mcp_s17 (by decide)]
  unfold mX10_copy_16
  rw [upR_n (by decide)]
  unfold mX10_copy_15
  rw [upR_n (by decide)]
  unfold mX10_copy_14
  rw [upR_n (by decide)]
  unfold mX10_copy_13
  rw [upR_n (by decide)]
  unfold mX10_copy_12
  rw [upR_n (by decide)]
  unfold mX10_copy_11
  rw [upR_n (by decide)]
  unfold mX10_copy_10
  rw [upR_n (by decide)]
  unfold mX10_copy_9
  rw [upR_n (by decide)]
  unfold mX10_copy_8
  rw [upR_n (by decide)]
  unfold mX10_copy_7
  rw [upR_n (by decide)]
  unfold mX10_copy_6
  rw [upR_n (by decide)]
  unfold mX10_copy_5
  rw [upR_n (by decide)]
  unfold mX10_copy_4
  rw [upR_n (by decide)]
  unfold mX10_copy_3
  rw [upR_n (by decide)]
  unfold mX10_copy_2
  rw [upR_n (by decide)]
  unfold mX10_copy_1
  rw [upR_n (by decide), upR_s, cpy_in h, jn_l (by decide)]
theorem cpD_2 {S : Mm} {k : Nat} (h : k < 48) : cpD S 2 k = S 2 k := by
  show fX10_copy (jn S SD0) 21 k = _
  rw [mcp_s17 (by decide)]
  unfold mX10_copy_16
  rw [upR_n (by decide)]
  unfold mX10_copy_15
  rw [upR_n (by decide)]
  unfold mX10_copy_14
  rw [upR_n (by decide)]
  unfold mX10_copy_13
  rw [upR_n (by decide)]
  unfold mX10_copy_12
  rw [upR_n (by decide)]
  unfold mX10_copy_11
  rw [upR_n (by decide)]
  unfold mX10_copy_10
  rw [upR_n (by decide)]
  unfold mX10_copy_9
  rw [upR_n (by decide)]
  unfold mX10_copy_8
  rw [upR_n (by decide)]
  unfold mX10_copy_7
  rw [upR_n (by decide)]
  unfold mX10_copy_6
  rw [upR_n (by decide)]
  unfold mX10_copy_5
  rw [upR_n (by decide)]
  unfold mX10_copy_4
  rw [upR_n (by decide)]
  unfold mX10_copy_3
  rw [upR_n (by decide)]
  unfold mX10_copy_2
  rw [upR_n (by decide)]
  unfold mX10_copy_1
  rw [upR_s, cpy_in h, upR_n (by decide), jn_l (by decide)]
theorem cpD_3 {S : Mm} {k : Nat} (h : k < 4) : cpD S 3 k = S 3 k := by
  show fX10_copy (jn S SD0) 22 k = _
  rw [mcp_s17 (by decide)]
  unfold mX10_copy_16
  rw [upR_n (by decide)]
  unfold mX10_copy_15
  rw [upR_n (by decide)]
  unfold mX10_copy_14
  rw [upR_n (by decide)]
  unfold mX10_copy_13
  rw [upR_n (by decide)]
  unfold mX10_copy_12
  rw [upR_n (by decide)]
  unfold mX10_copy_11
  rw [upR_n (by decide)]
  unfold mX10_copy_10
  rw [upR_n (by decide)]
  unfold mX10_copy_9
  rw [upR_n (by decide)]
  unfold mX10_copy_8
  rw [upR_n (by decide)]
  unfold mX10_copy_7
  rw [upR_n (by decide)]
  unfold mX10_copy_6
  rw [upR_n (by decide)]
  unfold mX10_copy_5
  rw [upR_n (by decide)]
  unfold mX10_copy_4
  rw [upR_n (by decide)]
  unfold mX10_copy_3
  rw [upR_n (by decide)]
  unfold mX10_copy_2
  rw [upR_s, cpy_in h, mcp_n1 (by decide), jn_l (by decide)]
theorem cpD_4 {S : Mm} {k : Nat} (h : k < 4) : cpD S 4 k = S 4 k := by
  show fX10_copy (jn S SD0) 23 k = _
  rw [mcp_s17 (by decide)]
  unfold mX10_copy_16
  rw [upR_n (by decide)]
  unfold mX10_copy_15
  rw [upR_n (by decide)]
  unfold mX10_copy_14
  rw [upR_n (by decide)]
  unfold mX10_copy_13
  rw [upR_n (by decide)]
  unfold mX10_copy_12
  rw [upR_n (by decide)]
  unfold mX10_copy_11
  rw [upR_n (by decide)]
  unfold mX10_copy_10
  rw [upR_n (by decide)]
  unfold mX10_copy_9
  rw [upR_n (by decide)]
  unfold mX10_copy_8
  rw [upR_n (by decide)]
  unfold mX10_copy_7
  rw [upR_n (by decide)]
  unfold mX10_copy_6
  rw [upR_n (by decide)]
  unfold mX10_copy_5
  rw [upR_n (by decide)]
  unfold mX10_copy_4
  rw [upR_n (by decide)]
  unfold mX10_copy_3
  rw [upR_s, cpy_in h, mcp_n2 (by decide), jn_l (by decide)]
theorem cpD_5 {S : Mm} {k : Nat} (h : k < 4) : cpD S 5 k = S 5 k := by
  show fX10_copy (jn S SD0) 24 k = _
  rw [mcp_s17 (by decide)]
  unfold mX10_copy_16
  rw [upR_n (by decide)]
  unfold mX10_copy_15
  rw [upR_n (by decide)]
  unfold mX10_copy_14
  rw [upR_n (by decide)]
  unfold mX10_copy_13
  rw [upR_n (by decide)]
  unfold mX10_copy_12
  rw [upR_n (by decide)]
  unfold mX10_copy_11
  rw [upR_n (by decide)]
  unfold mX10_copy_10
  rw [upR_n (by decide)]
  unfold mX10_copy_9
  rw [upR_n (by decide)]
  unfold mX10_copy_8
  rw [upR_n (by decide)]
  unfold mX10_copy_7
  rw [upR_n (by decide)]
  unfold mX10_copy_6
  rw [upR_n (by decide)]
  unfold mX10_copy_5
  rw [upR_n (by decide)]
  unfold mX10_copy_4
  rw [upR_s, cpy_in h, mcp_n3 (by decide), jn_l (by decide)]
theorem cpD_6 {S : Mm} {k : Nat} (h : k < 4) : cpD S 6 k = S 6 k := by
  show fX10_copy (jn S SD0) 25 k = _
  rw [mcp_s17 (by decide)]
  unfold mX10_copy_16
  rw [upR_n (by decide)]
  unfold mX10_copy_15
  rw [upR_n (by decide)]
  unfold mX10_copy_14
  rw [upR_n (by decide)]
  unfold mX10_copy_13
  rw [upR_n (by decide)]
  unfold mX10_copy_12
  rw [upR_n (by decide)]
  unfold mX10_copy_11
  rw [upR_n (by decide)]
  unfold mX10_copy_10
  rw [upR_n (by decide)]
  unfold mX10_copy_9
  rw [upR_n (by decide)]
  unfold mX10_copy_8
  rw [upR_n (by decide)]
  unfold mX10_copy_7
  rw [upR_n (by decide)]
  unfold mX10_copy_6
  rw [upR_n (by decide)]
  unfold mX10_copy_5
  rw [upR_s, cpy_in h, mcp_n4 (by decide), jn_l (by decide)]
theorem cpD_7 {S : Mm} {k : Nat} (h : k < 4) : cpD S 7 k = S 7 k := by
  show fX10_copy (jn S SD0) 26 k = _
  rw [mcp_s17 (by decide)]
  unfold mX10_copy_16
  rw [upR_n (by decide)]
  unfold mX10_copy_15
  rw [upR_n (by decide)]
  unfold mX10_copy_14
  rw [upR_n (by decide)]
  unfold mX10_copy_13
  rw [upR_n (by decide)]
  unfold mX10_copy_12
  rw [upR_n (by decide)]
  unfold mX10_copy_11
  rw [upR_n (by decide)]
  unfold mX10_copy_10
  rw [upR_n (by decide)]
  unfold mX10_copy_9
  rw [upR_n (by decide)]
  unfold mX10_copy_8
  rw [upR_n (by decide)]
  unfold mX10_copy_7
  rw [upR_n (by decide)]
  unfold mX10_copy_6
  rw [upR_s, cpy_in h, mcp_n5 (by decide), jn_l (by decide)]
theorem cpD_8 {S : Mm} {k : Nat} (h : k < 4) : cpD S 8 k = S 8 k := by
  show fX10_copy (jn S SD0) 27 k = _
  rw [mcp_s17 (by decide)]
  unfold mX10_copy_16
  rw [upR_n (by decide)]
  unfold mX10_copy_15
  rw [upR_n (by decide)]
  unfold mX10_copy_14
  rw [upR_n (by decide)]
  unfold mX10_copy_13
  rw [upR_n (by decide)]
  unfold mX10_copy_12
  rw [upR_n (by decide)]
  unfold mX10_copy_11
  rw [upR_n (by decide)]
  unfold mX10_copy_10
  rw [upR_n (by decide)]
  unfold mX10_copy_9
  rw [upR_n (by decide)]
  unfold mX10_copy_8
  rw [upR_n (by decide)]
  unfold mX10_copy_7
  rw [upR_s, cpy_in h, mcp_n6 (by decide), jn_l (by decide)]
theorem cpD_9 {S : Mm} {k : Nat} (h : k < 4) : cpD S 9 k = S 9 k := by
  show fX10_copy (jn S SD0) 28 k = _
  rw [mcp_s17 (by decide)]
  unfold mX10_copy_16
  rw [upR_n (by decide)]
  unfold mX10_copy_15
  rw [upR_n (by decide)]
  unfold mX10_copy_14
  rw [upR_n (by decide)]
  unfold mX10_copy_13
  rw [upR_n (by decide)]
  unfold mX10_copy_12
  rw [upR_n (by decide)]
  unfold mX10_copy_11
  rw [upR_n (by decide)]
  unfold mX10_copy_10
  rw [upR_n (by decide)]
  unfold mX10_copy_9
  rw [upR_n (by decide)]
  unfold mX10_copy_8
  rw [upR_s, cpy_in h, mcp_n7 (by decide), jn_l (by decide)]
theorem cpD_10 {S : Mm} {k : Nat} (h : k < 4) : cpD S 10 k = S 10 k := by
  show fX10_copy (jn S SD0) 29 k = _
  rw [mcp_s17 (by decide)]
  unfold mX10_copy_16
  rw [upR_n (by decide)]
  unfold mX10_copy_15
  rw [upR_n (by decide)]
  unfold mX10_copy_14
  rw [upR_n (by decide)]
  unfold mX10_copy_13
  rw [upR_n (by decide)]
  unfold mX10_copy_12
  rw [upR_n (by decide)]
  unfold mX10_copy_11
  rw [upR_n (by decide)]
  unfold mX10_copy_10
  rw [upR_n (by decide)]
  unfold mX10_copy_9
  rw [upR_s, cpy_in h, mcp_n8 (by decide), jn_l (by decide)]
theorem cpD_11 {S : Mm} {k : Nat} (h : k < 4) : cpD S 11 k = S 11 k := by
  show fX10_copy (jn S SD0) 30 k = _
  rw [mcp_s17 (by decide)]
  unfold mX10_copy_16
  rw [upR_n (by decide)]
  unfold mX10_copy_15
  rw [upR_n (by decide)]
  unfold mX10_copy_14
  rw [upR_n (by decide)]
  unfold mX10_copy_13
  rw [upR_n (by decide)]
  unfold mX10_copy_12
  rw [upR_n (by decide)]
  unfold mX10_copy_11
  rw [upR_n (by decide)]
  unfold mX10_copy_10
  rw [upR_s, cpy_in h, mcp_n9 (by decide), jn_l (by decide)]
theorem cpD_12 {S : Mm} {k : Nat} (h : k < 4) : cpD S 12 k = S 12 k := by
  show fX10_copy (jn S SD0) 31 k = _
  rw [mcp_s17 (by decide)]
  unfold mX10_copy_16
  rw [upR_n (by decide)]
  unfold mX10_copy_15
  rw [upR_n (by decide)]
  unfold mX10_copy_14
  rw [upR_n (by decide)]
  unfold mX10_copy_13
  rw [upR_n (by decide)]
  unfold mX10_copy_12
  rw [upR_n (by decide)]
  unfold mX10_copy_11
  rw [upR_s, cpy_in h, mcp_n10 (by decide), jn_l (by decide)]
theorem cpD_13 {S : Mm} {k : Nat} (h : k < 4) : cpD S 13 k = S 13 k := by
  show fX10_copy (jn S SD0) 32 k = _
  rw [mcp_s17 (by decide)]
  unfold mX10_copy_16
  rw [upR_n (by decide)]
  unfold mX10_copy_15
  rw [upR_n (by decide)]
  unfold mX10_copy_14
  rw [upR_n (by decide)]
  unfold mX10_copy_13
  rw [upR_n (by decide)]
  unfold mX10_copy_12
  rw [upR_s, cpy_in h, mcp_n11 (by decide), jn_l (by decide)]
theorem cpD_14 {S : Mm} {k : Nat} (h : k < 200) : cpD S 14 k = S 14 k := by
  show fX10_copy (jn S SD0) 33 k = _
  rw [mcp_s17 (by decide)]
  unfold mX10_copy_16
  rw [upR_n (by decide)]
  unfold mX10_copy_15
  rw [upR_n (by decide)]
  unfold mX10_copy_14
  rw [upR_n (by decide)]
  unfold mX10_copy_13
  rw [upR_s, cpy_in h, mcp_n12 (by decide), jn_l (by decide)]
theorem cpD_15 {S : Mm} {k : Nat} (h : k < 3) : cpD S 15 k = S 15 k := by
  show fX10_copy (jn S SD0) 34 k = _
  rw [mcp_s17 (by decide)]
  unfold mX10_copy_16
  rw [upR_n (by decide)]
  unfold mX10_copy_15
  rw [upR_n (by decide)]
  unfold mX10_copy_14
  rw [upR_s, cpy_in h, mcp_n13 (by decide), jn_l (by decide)]
theorem cpD_16 {S : Mm} {k : Nat} (h : k < 72) : cpD S 16 k = S 16 k := by
  show fX10_copy (jn S SD0) 35 k = _
  rw [mcp_s17 (by decide)]
  unfold mX10_copy_16
  rw [upR_n (by decide)]
  unfold mX10_copy_15
  rw [upR_s, cpy_in h, mcp_n14 (by decide), jn_l (by decide)]
theorem cpD_17 {S : Mm} {k : Nat} (h : k < 64) : cpD S 17 k = S 17 k := by
  show fX10_copy (jn S SD0) 36 k = _
  rw [mcp_s17 (by decide)]
  unfold mX10_copy_16
  rw [upR_s, cpy_in h, mcp_n15 (by decide), jn_l (by decide)]
theorem mcp_0 {S : Mm} : mX10_copy_16 S 0 = S 0 := mcp_n16 (by decide)
theorem upd_s {f : Nat → Int32} {k : Nat} {x : Int32} : upd f k x k = x := by simp [upd]
theorem mcp_170 {S : Mm} : mX10_copy_17 S 0 = S 0 := by
  unfold mX10_copy_17
  rw [up2_n (by decide), up2_n (by decide), mcp_0]
theorem mcp_180 {S : Mm} : mX10_copy_18 S 0 = S 0 := by
  unfold mX10_copy_18
  rw [up2_n (by decide), up2_n (by decide), mcp_170]
theorem mcp_190 {S : Mm} : mX10_copy_19 S 0 = S 0 := by
  unfold mX10_copy_19
  rw [up2_n (by decide), up2_n (by decide), mcp_180]
theorem mcp_200 {S : Mm} : mX10_copy_20 S 0 = S 0 := by
  unfold mX10_copy_20
  rw [up2_n (by decide), up2_n (by decide), mcp_190]
theorem mcp_210 {S : Mm} : mX10_copy_21 S 0 = S 0 := by
  unfold mX10_copy_21
  rw [up2_n (by decide), up2_n (by decide), mcp_200]
theorem mcp_220 {S : Mm} : mX10_copy_22 S 0 = S 0 := by
  unfold mX10_copy_22
  rw [up2_n (by decide), up2_n (by decide), mcp_210]
theorem cpF_13 {S : Mm} : cpD S 0 13 = S 0 13 := by
  show fX10_copy (jn S SD0) 19 13 = _
  unfold fX10_copy
  rw [up2_k (by decide)]
  unfold mX10_copy_22
  rw [up2_k (by decide), up2_k (by decide)]
  unfold mX10_copy_21
  rw [up2_k (by decide), up2_k (by decide)]
  unfold mX10_copy_20
  rw [up2_k (by decide), up2_k (by decide)]
  unfold mX10_copy_19
  rw [up2_k (by decide), up2_k (by decide)]
  unfold mX10_copy_18
  rw [up2_k (by decide), up2_k (by decide)]
  unfold mX10_copy_17
  rw [up2_k (by decide), up2_s, upd_s, mcp_0, jn_l (by decide)]
theorem cpF_14 {S : Mm} : cpD S 0 14 = S 0 14 := by
  show fX10_copy (jn S SD0) 19 14 = _
  unfold fX10_copy
  rw [up2_k (by decide)]
  unfold mX10_copy_22
  rw [up2_k (by decide), up2_k (by decide)]
  unfold mX10_copy_21
  rw [up2_k (by decide), up2_k (by decide)]
  unfold mX10_copy_20
  rw [up2_k (by decide), up2_k (by decide)]
  unfold mX10_copy_19
  rw [up2_k (by decide), up2_k (by decide)]
  unfold mX10_copy_18
  rw [up2_k (by decide), up2_k (by decide)]
  unfold mX10_copy_17
  rw [up2_s, upd_s, up2_n (by decide), mcp_0, jn_l (by decide)]
theorem cpF_15 {S : Mm} : cpD S 0 15 = S 0 15 := by
  show fX10_copy (jn S SD0) 19 15 = _
  unfold fX10_copy
  rw [up2_k (by decide)]
  unfold mX10_copy_22
  rw [up2_k (by decide), up2_k (by decide)]
  unfold mX10_copy_21
  rw [up2_k (by decide), up2_k (by decide)]
  unfold mX10_copy_20
  rw [up2_k (by decide), up2_k (by decide)]
  unfold mX10_copy_19
  rw [up2_k (by decide), up2_k (by decide)]
  unfold mX10_copy_18
  rw [up2_k (by decide), up2_s, upd_s, mcp_170, jn_l (by decide)]
theorem cpF_16 {S : Mm} : cpD S 0 16 = S 0 16 := by
  show fX10_copy (jn S SD0) 19 16 = _
  unfold fX10_copy
  rw [up2_k (by decide)]
  unfold mX10_copy_22
  rw [up2_k (by decide), up2_k (by decide)]
  unfold mX10_copy_21
  rw [up2_k (by decide), up2_k (by decide)]
  unfold mX10_copy_20
  rw [up2_k (by decide), up2_k (by decide)]
  unfold mX10_copy_19
  rw [up2_k (by decide), up2_k (by decide)]
  unfold mX10_copy_18
  rw [up2_s, upd_s, up2_n (by decide), mcp_170, jn_l (by decide)]
theorem cpF_17 {S : Mm} : cpD S 0 17 = S 0 17 := by
  show fX10_copy (jn S SD0) 19 17 = _
  unfold fX10_copy
  rw [up2_k (by decide)]
  unfold mX10_copy_22
  rw [up2_k (by decide), up2_k (by decide)]
  unfold mX10_copy_21
  rw [up2_k (by decide), up2_k (by decide)]
  unfold mX10_copy_20
  rw [up2_k (by decide), up2_k (by decide)]
  unfold mX10_copy_19
  rw [up2_k (by decide), up2_s, upd_s, mcp_180, jn_l (by decide)]
theorem cpF_18 {S : Mm} : cpD S 0 18 = S 0 18 := by
  show fX10_copy (jn S SD0) 19 18 = _
  unfold fX10_copy
  rw [up2_k (by decide)]
  unfold mX10_copy_22
  rw [up2_k (by decide), up2_k (by decide)]
  unfold mX10_copy_21
  rw [up2_k (by decide), up2_k (by decide)]
  unfold mX10_copy_20
  rw [up2_k (by decide), up2_k (by decide)]
  unfold mX10_copy_19
  rw [up2_s, upd_s, up2_n (by decide), mcp_180, jn_l (by decide)]
theorem cpF_22 {S : Mm} : cpD S 0 22 = S 0 22 := by
  show fX10_copy (jn S SD0) 19 22 = _
  unfold fX10_copy
  rw [up2_k (by decide)]
  unfold mX10_copy_22
  rw [up2_k (by decide), up2_k (by decide)]
  unfold mX10_copy_21
  rw [up2_k (by decide), up2_k (by decide)]
  unfold mX10_copy_20
  rw [up2_k (by decide), up2_s, upd_s, mcp_190, jn_l (by decide)]
theorem cpF_23 {S : Mm} : cpD S 0 23 = S 0 23 := by
  show fX10_copy (jn S SD0) 19 23 = _
  unfold fX10_copy
  rw [up2_k (by decide)]
  unfold mX10_copy_22
  rw [up2_k (by decide), up2_k (by decide)]
  unfold mX10_copy_21
  rw [up2_k (by decide), up2_k (by decide)]
  unfold mX10_copy_20
  rw [up2_s, upd_s, up2_n (by decide), mcp_190, jn_l (by decide)]
theorem cpF_24 {S : Mm} : cpD S 0 24 = S 0 24 := by
  show fX10_copy (jn S SD0) 19 24 = _
  unfold fX10_copy
  rw [up2_k (by decide)]
  unfold mX10_copy_22
  rw [up2_k (by decide), up2_k (by decide)]
  unfold mX10_copy_21
  rw [up2_k (by decide), up2_s, upd_s, mcp_200, jn_l (by decide)]
theorem cpF_25 {S : Mm} : cpD S 0 25 = S 0 25 := by
  show fX10_copy (jn S SD0) 19 25 = _
  unfold fX10_copy
  rw [up2_k (by decide)]
  unfold mX10_copy_22
  rw [up2_k (by decide), up2_k (by decide)]
  unfold mX10_copy_21
  rw [up2_s, upd_s, up2_n (by decide), mcp_200, jn_l (by decide)]
theorem cpF_26 {S : Mm} : cpD S 0 26 = S 0 26 := by
  show fX10_copy (jn S SD0) 19 26 = _
  unfold fX10_copy
  rw [up2_k (by decide)]
  unfold mX10_copy_22
  rw [up2_k (by decide), up2_s, upd_s, mcp_210, jn_l (by decide)]
theorem cpF_27 {S : Mm} : cpD S 0 27 = S 0 27 := by
  show fX10_copy (jn S SD0) 19 27 = _
  unfold fX10_copy
  rw [up2_k (by decide)]
  unfold mX10_copy_22
  rw [up2_s, upd_s, up2_n (by decide), mcp_210, jn_l (by decide)]
theorem cpF_28 {S : Mm} : cpD S 0 28 = S 0 28 := by
  show fX10_copy (jn S SD0) 19 28 = _
  unfold fX10_copy
  rw [up2_s, upd_s, mcp_220, jn_l (by decide)]
theorem ecp_eq {S : Mm} : eX10_copy (jn S SD0) = S 0 24 := by
  unfold eX10_copy
  rw [mcp_200, jn_l (by decide)]
theorem cpD_iD {S : Mm} {K : Int} (h : iD S K) : iD (cpD S) K := by
  obtain ⟨hV, hI, h25, h16, h28, ht, hw⟩ := h
  refine ⟨fun v hv => ?_, fun i hi => ?_, ?_, ?_, ?_, fun t ht2 => ?_, fun j hj => ?_⟩
  · have q := hV v hv
    unfold iV at q ⊢
    rw [cpD_5 hv, cpD_6 hv, cpD_8 hv, cpD_9 hv]
    exact q
  · have q := hI i hi
    unfold iJ at q ⊢
    rw [cpD_2 (by omega), cpD_2 (by omega), cpD_2 (by omega), cpD_2 (by omega), cpD_2 (by omega), cpD_2 (by omega), cpD_2 (by omega), cpD_2 (by omega), cpD_2 (by omega), cpD_2 (by omega), cpD_2 (by omega), cpD_2 (by omega)]
    exact q
  · rw [cpF_25]; exact h25
  · rw [cpF_16]; exact h16
  · rw [cpF_28]; exact h28
  · rw [cpD_15 ht2]; exact ht t ht2
  · rw [cpD_16 (by omega)]; exact hw j hj
