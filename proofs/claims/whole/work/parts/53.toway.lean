/-! ===== the class: toWay ===== -/
theorem hU_u6 {h : Hp} {a b1 b2 b3 b4 b5 : Nat} {c d1 d2 d3 d4 d5 e : va_E} (n1 : b1 ≠ a) (n2 : b2 ≠ a) (n3 : b3 ≠ a) (n4 : b4 ≠ a) (n5 : b5 ≠ a) : hU (hU (hU (hU (hU (hU (hU h a c) b1 d1) b2 d2) b3 d3) b4 d4) b5 d5) a e = (hU (hU (hU (hU (hU (hU h a e) b1 d1) b2 d2) b3 d3) b4 d4) b5 d5) := by rw [hU_w n5, hU_u5 n1 n2 n3 n4]
theorem hU_u7 {h : Hp} {a b1 b2 b3 b4 b5 b6 : Nat} {c d1 d2 d3 d4 d5 d6 e : va_E} (n1 : b1 ≠ a) (n2 : b2 ≠ a) (n3 : b3 ≠ a) (n4 : b4 ≠ a) (n5 : b5 ≠ a) (n6 : b6 ≠ a) : hU (hU (hU (hU (hU (hU (hU (hU h a c) b1 d1) b2 d2) b3 d3) b4 d4) b5 d5) b6 d6) a e = (hU (hU (hU (hU (hU (hU (hU h a e) b1 d1) b2 d2) b3 d3) b4 d4) b5 d5) b6 d6) := by rw [hU_w n6, hU_u6 n1 n2 n3 n4 n5]
theorem hU_u8 {h : Hp} {a b1 b2 b3 b4 b5 b6 b7 : Nat} {c d1 d2 d3 d4 d5 d6 d7 e : va_E} (n1 : b1 ≠ a) (n2 : b2 ≠ a) (n3 : b3 ≠ a) (n4 : b4 ≠ a) (n5 : b5 ≠ a) (n6 : b6 ≠ a) (n7 : b7 ≠ a) : hU (hU (hU (hU (hU (hU (hU (hU (hU h a c) b1 d1) b2 d2) b3 d3) b4 d4) b5 d5) b6 d6) b7 d7) a e = (hU (hU (hU (hU (hU (hU (hU (hU h a e) b1 d1) b2 d2) b3 d3) b4 d4) b5 d5) b6 d6) b7 d7) := by rw [hU_w n7, hU_u7 n1 n2 n3 n4 n5 n6]
theorem hU_u9 {h : Hp} {a b1 b2 b3 b4 b5 b6 b7 b8 : Nat} {c d1 d2 d3 d4 d5 d6 d7 d8 e : va_E} (n1 : b1 ≠ a) (n2 : b2 ≠ a) (n3 : b3 ≠ a) (n4 : b4 ≠ a) (n5 : b5 ≠ a) (n6 : b6 ≠ a) (n7 : b7 ≠ a) (n8 : b8 ≠ a) : hU (hU (hU (hU (hU (hU (hU (hU (hU (hU h a c) b1 d1) b2 d2) b3 d3) b4 d4) b5 d5) b6 d6) b7 d7) b8 d8) a e = (hU (hU (hU (hU (hU (hU (hU (hU (hU h a e) b1 d1) b2 d2) b3 d3) b4 d4) b5 d5) b6 d6) b7 d7) b8 d8) := by rw [hU_w n8, hU_u8 n1 n2 n3 n4 n5 n6 n7]
theorem hU_u10 {h : Hp} {a b1 b2 b3 b4 b5 b6 b7 b8 b9 : Nat} {c d1 d2 d3 d4 d5 d6 d7 d8 d9 e : va_E} (n1 : b1 ≠ a) (n2 : b2 ≠ a) (n3 : b3 ≠ a) (n4 : b4 ≠ a) (n5 : b5 ≠ a) (n6 : b6 ≠ a) (n7 : b7 ≠ a) (n8 : b8 ≠ a) (n9 : b9 ≠ a) : hU (hU (hU (hU (hU (hU (hU (hU (hU (hU (hU h a c) b1 d1) b2 d2) b3 d3) b4 d4) b5 d5) b6 d6) b7 d7) b8 d8) b9 d9) a e = (hU (hU (hU (hU (hU (hU (hU (hU (hU (hU h a e) b1 d1) b2 d2) b3 d3) b4 d4) b5 d5) b6 d6) b7 d7) b8 d8) b9 d9) := by rw [hU_w n9, hU_u9 n1 n2 n3 n4 n5 n6 n7 n8]
theorem hU_u11 {h : Hp} {a b1 b2 b3 b4 b5 b6 b7 b8 b9 b10 : Nat} {c d1 d2 d3 d4 d5 d6 d7 d8 d9 d10 e : va_E} (n1 : b1 ≠ a) (n2 : b2 ≠ a) (n3 : b3 ≠ a) (n4 : b4 ≠ a) (n5 : b5 ≠ a) (n6 : b6 ≠ a) (n7 : b7 ≠ a) (n8 : b8 ≠ a) (n9 : b9 ≠ a) (n10 : b10 ≠ a) : hU (hU (hU (hU (hU (hU (hU (hU (hU (hU (hU (hU h a c) b1 d1) b2 d2) b3 d3) b4 d4) b5 d5) b6 d6) b7 d7) b8 d8) b9 d9) b10 d10) a e = (hU (hU (hU (hU (hU (hU (hU (hU (hU (hU (hU h a e) b1 d1) b2 d2) b3 d3) b4 d4) b5 d5) b6 d6) b7 d7) b8 d8) b9 d9) b10 d10) := by rw [hU_w n10, hU_u10 n1 n2 n3 n4 n5 n6 n7 n8 n9]
theorem hU_u12 {h : Hp} {a b1 b2 b3 b4 b5 b6 b7 b8 b9 b10 b11 : Nat} {c d1 d2 d3 d4 d5 d6 d7 d8 d9 d10 d11 e : va_E} (n1 : b1 ≠ a) (n2 : b2 ≠ a) (n3 : b3 ≠ a) (n4 : b4 ≠ a) (n5 : b5 ≠ a) (n6 : b6 ≠ a) (n7 : b7 ≠ a) (n8 : b8 ≠ a) (n9 : b9 ≠ a) (n10 : b10 ≠ a) (n11 : b11 ≠ a) : hU (hU (hU (hU (hU (hU (hU (hU (hU (hU (hU (hU (hU h a c) b1 d1) b2 d2) b3 d3) b4 d4) b5 d5) b6 d6) b7 d7) b8 d8) b9 d9) b10 d10) b11 d11) a e = (hU (hU (hU (hU (hU (hU (hU (hU (hU (hU (hU (hU h a e) b1 d1) b2 d2) b3 d3) b4 d4) b5 d5) b6 d6) b7 d7) b8 d8) b9 d9) b10 d10) b11 d11) := by rw [hU_w n11, hU_u11 n1 n2 n3 n4 n5 n6 n7 n8 n9 n10]
theorem hU_u13 {h : Hp} {a b1 b2 b3 b4 b5 b6 b7 b8 b9 b10 b11 b12 : Nat} {c d1 d2 d3 d4 d5 d6 d7 d8 d9 d10 d11 d12 e : va_E} (n1 : b1 ≠ a) (n2 : b2 ≠ a) (n3 : b3 ≠ a) (n4 : b4 ≠ a) (n5 : b5 ≠ a) (n6 : b6 ≠ a) (n7 : b7 ≠ a) (n8 : b8 ≠ a) (n9 : b9 ≠ a) (n10 : b10 ≠ a) (n11 : b11 ≠ a) (n12 : b12 ≠ a) : hU (hU (hU (hU (hU (hU (hU (hU (hU (hU (hU (hU (hU (hU h a c) b1 d1) b2 d2) b3 d3) b4 d4) b5 d5) b6 d6) b7 d7) b8 d8) b9 d9) b10 d10) b11 d11) b12 d12) a e = (hU (hU (hU (hU (hU (hU (hU (hU (hU (hU (hU (hU (hU h a e) b1 d1) b2 d2) b3 d3) b4 d4) b5 d5) b6 d6) b7 d7) b8 d8) b9 d9) b10 d10) b11 d11) b12 d12) := by rw [hU_w n12, hU_u12 n1 n2 n3 n4 n5 n6 n7 n8 n9 n10 n11]
theorem hU_u14 {h : Hp} {a b1 b2 b3 b4 b5 b6 b7 b8 b9 b10 b11 b12 b13 : Nat} {c d1 d2 d3 d4 d5 d6 d7 d8 d9 d10 d11 d12 d13 e : va_E} (n1 : b1 ≠ a) (n2 : b2 ≠ a) (n3 : b3 ≠ a) (n4 : b4 ≠ a) (n5 : b5 ≠ a) (n6 : b6 ≠ a) (n7 : b7 ≠ a) (n8 : b8 ≠ a) (n9 : b9 ≠ a) (n10 : b10 ≠ a) (n11 : b11 ≠ a) (n12 : b12 ≠ a) (n13 : b13 ≠ a) : hU (hU (hU (hU (hU (hU (hU (hU (hU (hU (hU (hU (hU (hU (hU h a c) b1 d1) b2 d2) b3 d3) b4 d4) b5 d5) b6 d6) b7 d7) b8 d8) b9 d9) b10 d10) b11 d11) b12 d12) b13 d13) a e = (hU (hU (hU (hU (hU (hU (hU (hU (hU (hU (hU (hU (hU (hU h a e) b1 d1) b2 d2) b3 d3) b4 d4) b5 d5) b6 d6) b7 d7) b8 d8) b9 d9) b10 d10) b11 d11) b12 d12) b13 d13) := by rw [hU_w n13, hU_u13 n1 n2 n3 n4 n5 n6 n7 n8 n9 n10 n11 n12]
theorem hU_u15 {h : Hp} {a b1 b2 b3 b4 b5 b6 b7 b8 b9 b10 b11 b12 b13 b14 : Nat} {c d1 d2 d3 d4 d5 d6 d7 d8 d9 d10 d11 d12 d13 d14 e : va_E} (n1 : b1 ≠ a) (n2 : b2 ≠ a) (n3 : b3 ≠ a) (n4 : b4 ≠ a) (n5 : b5 ≠ a) (n6 : b6 ≠ a) (n7 : b7 ≠ a) (n8 : b8 ≠ a) (n9 : b9 ≠ a) (n10 : b10 ≠ a) (n11 : b11 ≠ a) (n12 : b12 ≠ a) (n13 : b13 ≠ a) (n14 : b14 ≠ a) : hU (hU (hU (hU (hU (hU (hU (hU (hU (hU (hU (hU (hU (hU (hU (hU h a c) b1 d1) b2 d2) b3 d3) b4 d4) b5 d5) b6 d6) b7 d7) b8 d8) b9 d9) b10 d10) b11 d11) b12 d12) b13 d13) b14 d14) a e = (hU (hU (hU (hU (hU (hU (hU (hU (hU (hU (hU (hU (hU (hU (hU h a e) b1 d1) b2 d2) b3 d3) b4 d4) b5 d5) b6 d6) b7 d7) b8 d8) b9 d9) b10 d10) b11 d11) b12 d12) b13 d13) b14 d14) := by rw [hU_w n14, hU_u14 n1 n2 n3 n4 n5 n6 n7 n8 n9 n10 n11 n12 n13]
theorem hU_u16 {h : Hp} {a b1 b2 b3 b4 b5 b6 b7 b8 b9 b10 b11 b12 b13 b14 b15 : Nat} {c d1 d2 d3 d4 d5 d6 d7 d8 d9 d10 d11 d12 d13 d14 d15 e : va_E} (n1 : b1 ≠ a) (n2 : b2 ≠ a) (n3 : b3 ≠ a) (n4 : b4 ≠ a) (n5 : b5 ≠ a) (n6 : b6 ≠ a) (n7 : b7 ≠ a) (n8 : b8 ≠ a) (n9 : b9 ≠ a) (n10 : b10 ≠ a) (n11 : b11 ≠ a) (n12 : b12 ≠ a) (n13 : b13 ≠ a) (n14 : b14 ≠ a) (n15 : b15 ≠ a) : hU (hU (hU (hU (hU (hU (hU (hU (hU (hU (hU (hU (hU (hU (hU (hU (hU h a c) b1 d1) b2 d2) b3 d3) b4 d4) b5 d5) b6 d6) b7 d7) b8 d8) b9 d9) b10 d10) b11 d11) b12 d12) b13 d13) b14 d14) b15 d15) a e = (hU (hU (hU (hU (hU (hU (hU (hU (hU (hU (hU (hU (hU (hU (hU (hU h a e) b1 d1) b2 d2) b3 d3) b4 d4) b5 d5) b6 d6) b7 d7) b8 d8) b9 d9) b10 d10) b11 d11) b12 d12) b13 d13) b14 d14) b15 d15) := by rw [hU_w n15, hU_u15 n1 n2 n3 n4 n5 n6 n7 n8 n9 n10 n11 n12 n13 n14]
theorem hU_u17 {h : Hp} {a b1 b2 b3 b4 b5 b6 b7 b8 b9 b10 b11 b12 b13 b14 b15 b16 : Nat} {c d1 d2 d3 d4 d5 d6 d7 d8 d9 d10 d11 d12 d13 d14 d15 d16 e : va_E} (n1 : b1 ≠ a) (n2 : b2 ≠ a) (n3 : b3 ≠ a) (n4 : b4 ≠ a) (n5 : b5 ≠ a) (n6 : b6 ≠ a) (n7 : b7 ≠ a) (n8 : b8 ≠ a) (n9 : b9 ≠ a) (n10 : b10 ≠ a) (n11 : b11 ≠ a) (n12 : b12 ≠ a) (n13 : b13 ≠ a) (n14 : b14 ≠ a) (n15 : b15 ≠ a) (n16 : b16 ≠ a) : hU (hU (hU (hU (hU (hU (hU (hU (hU (hU (hU (hU (hU (hU (hU (hU (hU (hU h a c) b1 d1) b2 d2) b3 d3) b4 d4) b5 d5) b6 d6) b7 d7) b8 d8) b9 d9) b10 d10) b11 d11) b12 d12) b13 d13) b14 d14) b15 d15) b16 d16) a e = (hU (hU (hU (hU (hU (hU (hU (hU (hU (hU (hU (hU (hU (hU (hU (hU (hU h a e) b1 d1) b2 d2) b3 d3) b4 d4) b5 d5) b6 d6) b7 d7) b8 d8) b9 d9) b10 d10) b11 d11) b12 d12) b13 d13) b14 d14) b15 d15) b16 d16) := by rw [hU_w n16, hU_u16 n1 n2 n3 n4 n5 n6 n7 n8 n9 n10 n11 n12 n13 n14 n15]
theorem hU_u18 {h : Hp} {a b1 b2 b3 b4 b5 b6 b7 b8 b9 b10 b11 b12 b13 b14 b15 b16 b17 : Nat} {c d1 d2 d3 d4 d5 d6 d7 d8 d9 d10 d11 d12 d13 d14 d15 d16 d17 e : va_E} (n1 : b1 ≠ a) (n2 : b2 ≠ a) (n3 : b3 ≠ a) (n4 : b4 ≠ a) (n5 : b5 ≠ a) (n6 : b6 ≠ a) (n7 : b7 ≠ a) (n8 : b8 ≠ a) (n9 : b9 ≠ a) (n10 : b10 ≠ a) (n11 : b11 ≠ a) (n12 : b12 ≠ a) (n13 : b13 ≠ a) (n14 : b14 ≠ a) (n15 : b15 ≠ a) (n16 : b16 ≠ a) (n17 : b17 ≠ a) : hU (hU (hU (hU (hU (hU (hU (hU (hU (hU (hU (hU (hU (hU (hU (hU (hU (hU (hU h a c) b1 d1) b2 d2) b3 d3) b4 d4) b5 d5) b6 d6) b7 d7) b8 d8) b9 d9) b10 d10) b11 d11) b12 d12) b13 d13) b14 d14) b15 d15) b16 d16) b17 d17) a e = (hU (hU (hU (hU (hU (hU (hU (hU (hU (hU (hU (hU (hU (hU (hU (hU (hU (hU h a e) b1 d1) b2 d2) b3 d3) b4 d4) b5 d5) b6 d6) b7 d7) b8 d8) b9 d9) b10 d10) b11 d11) b12 d12) b13 d13) b14 d14) b15 d15) b16 d16) b17 d17) := by rw [hU_w n17, hU_u17 n1 n2 n3 n4 n5 n6 n7 n8 n9 n10 n11 n12 n13 n14 n15 n16]
theorem hU_u19 {h : Hp} {a b1 b2 b3 b4 b5 b6 b7 b8 b9 b10 b11 b12 b13 b14 b15 b16 b17 b18 : Nat} {c d1 d2 d3 d4 d5 d6 d7 d8 d9 d10 d11 d12 d13 d14 d15 d16 d17 d18 e : va_E} (n1 : b1 ≠ a) (n2 : b2 ≠ a) (n3 : b3 ≠ a) (n4 : b4 ≠ a) (n5 : b5 ≠ a) (n6 : b6 ≠ a) (n7 : b7 ≠ a) (n8 : b8 ≠ a) (n9 : b9 ≠ a) (n10 : b10 ≠ a) (n11 : b11 ≠ a) (n12 : b12 ≠ a) (n13 : b13 ≠ a) (n14 : b14 ≠ a) (n15 : b15 ≠ a) (n16 : b16 ≠ a) (n17 : b17 ≠ a) (n18 : b18 ≠ a) : hU (hU (hU (hU (hU (hU (hU (hU (hU (hU (hU (hU (hU (hU (hU (hU (hU (hU (hU (hU h a c) b1 d1) b2 d2) b3 d3) b4 d4) b5 d5) b6 d6) b7 d7) b8 d8) b9 d9) b10 d10) b11 d11) b12 d12) b13 d13) b14 d14) b15 d15) b16 d16) b17 d17) b18 d18) a e = (hU (hU (hU (hU (hU (hU (hU (hU (hU (hU (hU (hU (hU (hU (hU (hU (hU (hU (hU h a e) b1 d1) b2 d2) b3 d3) b4 d4) b5 d5) b6 d6) b7 d7) b8 d8) b9 d9) b10 d10) b11 d11) b12 d12) b13 d13) b14 d14) b15 d15) b16 d16) b17 d17) b18 d18) := by rw [hU_w n18, hU_u18 n1 n2 n3 n4 n5 n6 n7 n8 n9 n10 n11 n12 n13 n14 n15 n16 n17]
theorem hU_u20 {h : Hp} {a b1 b2 b3 b4 b5 b6 b7 b8 b9 b10 b11 b12 b13 b14 b15 b16 b17 b18 b19 : Nat} {c d1 d2 d3 d4 d5 d6 d7 d8 d9 d10 d11 d12 d13 d14 d15 d16 d17 d18 d19 e : va_E} (n1 : b1 ≠ a) (n2 : b2 ≠ a) (n3 : b3 ≠ a) (n4 : b4 ≠ a) (n5 : b5 ≠ a) (n6 : b6 ≠ a) (n7 : b7 ≠ a) (n8 : b8 ≠ a) (n9 : b9 ≠ a) (n10 : b10 ≠ a) (n11 : b11 ≠ a) (n12 : b12 ≠ a) (n13 : b13 ≠ a) (n14 : b14 ≠ a) (n15 : b15 ≠ a) (n16 : b16 ≠ a) (n17 : b17 ≠ a) (n18 : b18 ≠ a) (n19 : b19 ≠ a) : hU (hU (hU (hU (hU (hU (hU (hU (hU (hU (hU (hU (hU (hU (hU (hU (hU (hU (hU (hU (hU h a c) b1 d1) b2 d2) b3 d3) b4 d4) b5 d5) b6 d6) b7 d7) b8 d8) b9 d9) b10 d10) b11 d11) b12 d12) b13 d13) b14 d14) b15 d15) b16 d16) b17 d17) b18 d18) b19 d19) a e = (hU (hU (hU (hU (hU (hU (hU (hU (hU (hU (hU (hU (hU (hU (hU (hU (hU (hU (hU (hU h a e) b1 d1) b2 d2) b3 d3) b4 d4) b5 d5) b6 d6) b7 d7) b8 d8) b9 d9) b10 d10) b11 d11) b12 d12) b13 d13) b14 d14) b15 d15) b16 d16) b17 d17) b18 d18) b19 d19) := by rw [hU_w n19, hU_u19 n1 n2 n3 n4 n5 n6 n7 n8 n9 n10 n11 n12 n13 n14 n15 n16 n17 n18]
theorem fr_x {h : Hp} {q x : Nat} (hq : h q = none) (hx : h x ≠ none) : x ≠ q := fun e => by subst e; exact hx hq
theorem tkEnd {f : Nat → Int32} {n e : Nat} : tkC f n e = -1 ↔ lkT f n e = 0 := by
  unfold tkC lkT
  by_cases h1 : lkJ f n e = n
  · rw [if_pos h1, if_pos h1]; exact ⟨fun _ => rfl, fun _ => rfl⟩
  · rw [if_neg h1, if_neg h1]
    by_cases h2 : isL (f (lkJ f n e))
    · rw [if_pos h2, if_pos h2]; decide
    · rw [if_neg h2, if_neg h2]
      by_cases h3 : isDg (f (lkJ f n e))
      · rw [if_pos h3, if_pos h3]
        by_cases h4 : 999 < imin (numM f (lkJ f n e) 0 (n - lkJ f n e)) 1000
        · rw [if_pos h4]; decide
        · rw [if_neg h4]; decide
      · rw [if_neg h3, if_neg h3]
        by_cases h4 : isSg (f (lkJ f n e))
        · rw [if_pos h4, if_pos h4]
          refine ⟨fun q => ?_, fun q => absurd q (by decide)⟩
          rw [q] at h4; exact absurd h4 (by decide)
        · rw [if_neg h4, if_neg h4]; decide
theorem RuleE_c {n1 n2 n3 n4 : Int32} {m m2 : Nat → Int32} {u : Nat} (e : ∀ j, u ≤ j → j < u + 4 → m2 j = m j) (h : RuleE n1 n2 n3 n4 m u) : RuleE n1 n2 n3 n4 m2 u := by
  unfold RuleE at *
  rw [e u (Nat.le_refl _) (by omega), e (u + 1) (by omega) (by omega), e (u + 2) (by omega) (by omega), e (u + 3) (by omega) (by omega)]
  exact h
theorem rule_new {f : Nat → Int32} {n e w u : Nat} {D : Nat → Int32} {bd : Int32} (hu : w < u) (hd : ¬ 6 ≤ D w) (ok : rkOk f n e) (hbd : ¬ 4 ≤ nameAt f n e → bd = c2V f n (lkE f n e)) : RuleE (nameAt f n e) (tkC f n (lkE f n e)) bd (deedAt f n (rdA3 f n e)) (rdD f n e D w u) u := by
  have o2 : rdOk f n e D w := (rkOk_d hd).mpr ok
  have e0 : ∀ j, u ≤ j → rdD f n e D w u j = rdD2 D u f n e j := fun j hj => by
    unfold rdD
    rw [if_pos o2.1, if_pos o2.2.1, if_pos o2.2.2, pk_un (by omega)]
  have a0 : rdD f n e D w u u = nameAt f n e := by
    rw [e0 u (Nat.le_refl _)]; unfold rdD2
    rw [pk_un (by omega)]; unfold rdD1
    by_cases z : 4 ≤ nameAt f n e
    · rw [if_pos z, pk_us]
    · rw [if_neg z, cmD_n (by omega) (by omega), pk_us]
  refine ⟨a0.symm, fun h4 => ?_, ?_⟩
  · rw [a0] at h4
    have z : ¬ 4 ≤ nameAt f n e := fun q => h4 (name4.mpr q)
    have hc : cmP f n (lkE f n e) := Classical.byContradiction fun q => ok.2.1.1 ⟨z, q⟩
    rw [e0 (u + 1) (by omega), e0 (u + 2) (by omega)]
    unfold rdD2
    rw [pk_un (by omega), pk_un (by omega)]
    unfold rdD1
    rw [if_neg z]
    unfold cmD
    rw [if_pos hc.1, pk_un (by omega), pk_us, pk_us]
    refine ⟨?_, hbd z⟩
    rw [sg60]
    by_cases y : sgAt f n (lkE f n e) 60
    · rw [if_pos y]; exact ⟨fun _ => rfl, fun _ => y⟩
    · rw [if_neg y]; exact ⟨fun q => absurd q y, fun q => absurd q (by decide)⟩
  · rw [e0 (u + 3) (by omega)]; unfold rdD2; rw [pk_us]
theorem rules_s {f : Nat → Int32} {n e w m : Nat} {D f1 f2 f3 f4 : Nat → Int32} {bd : Int32} (hd : ¬ 6 ≤ D w) (ok : rkOk f n e) (hbd : ¬ 4 ≤ nameAt f n e → bd = c2V f n (lkE f n e)) (h : ∀ k, k < m → RuleE (f1 k) (f2 k) (f3 k) (f4 k) D (w + 1 + 4 * k)) : ∀ k, k < m + 1 → RuleE (upd f1 m (nameAt f n e) k) (upd f2 m (tkC f n (lkE f n e)) k) (upd f3 m bd k) (upd f4 m (deedAt f n (rdA3 f n e)) k) (rdD f n e D w (w + 1 + 4 * m)) (w + 1 + 4 * k) := by
  intro k hk
  by_cases z : k = m
  · subst z
    rw [pk_us, pk_us, pk_us, pk_us]
    exact rule_new (by omega) hd ok hbd
  · rw [pk_un z, pk_un z, pk_un z, pk_un z]
    exact RuleE_c (fun j h1 h2 => rdD_n (by omega) (by omega) (by omega) (by omega) (by omega)) (h k (by omega))
set_option maxHeartbeats 4000000 in
set_option maxRecDepth 100000 in
theorem ct_X4_toWay (ll : Launch) (g : GT) {h : Hp} {a by_ n w : Nat} {f D0 : Nat → Int32} {st en tk vl : Int32} (ha : h a = some (ob 4 [.ref by_, .int (nI n), .int st, .int en, .int tk, .int vl])) (hb : h by_ = some (ai g 100 f)) (hn : n ≤ 100) (hD0 : D0 (110 + 25 * w) = 0) : MC ll g yX4_toWay cX4_toWay 3 (some (.object "LogRollers$Way")) { frames := 7, cells := 5, slots := 29, locals := 270 } [.ref a] h (fun r h2 => (∀ x, h x ≠ none → x ≠ a → h2 x = h x) ∧ (∃ (e2 t2 v2 : Int32), h2 a = some (ob 4 [.ref by_, .int (nI n), .int (nI (lkJ f n (wyF f n (110 + 25 * w) 7 0 D0 0).2.1)), .int e2, .int t2, .int v2])) ∧ (((wyF f n (110 + 25 * w) 7 0 D0 0).1 = true ∧ ∃ q : Nat, r = some (.ref q) ∧ h q = none ∧ WayC g h2 q (wyF f n (110 + 25 * w) 7 0 D0 0).2.2 w) ∨ ((wyF f n (110 + 25 * w) 7 0 D0 0).1 = false ∧ r = some .null))) 5 29 := by
  have ne_1 : by_ ≠ a := hneb hb ha rfl
  refine mc_of (by decide) (Nat.le_of_ble_eq_true rfl) ?_
  intro K X r
  refine v_eqv (lv2 := [(0, .ref a)]) rfl ?_
  refine v_newO (ci := 5) X [.int 0, .null, .null, .null, .null] cX4_31_l qx_X5 qi_X5 rfl u_X5 tyX5_ok df_X5 (Nat.le_of_ble_eq_true rfl) (Nat.le_of_ble_eq_true rfl) dX4_toWay_0 (fun q1 hq1 => ?_)
  have f_q1_a : q1 ≠ a := fr_ne hq1 ha
  have f_q1_by_ : q1 ≠ by_ := fr_ne hq1 hb
  have b_q1 : h q1 = none := hq1
  refine v_dup X dX4_toWay_3 rfl ?_
  refine v_cIn X (av := []) sX4_33 (ct_X5_init ll g  hU_s) dX4_toWay_4 rfl rfl ⟨rfl, rfl⟩ ⟨(Nat.le_of_ble_eq_true rfl), (Nat.le_of_ble_eq_true rfl)⟩ ⟨(Nat.le_of_ble_eq_true rfl), (Nat.le_of_ble_eq_true rfl)⟩ (Nat.le_of_ble_eq_true rfl) (fun r_ h_ q_ => ?_)
  obtain ⟨e_, q2, q3, q4, q5, b_q2, b_q3, b_q4, b_q5, f_q3_q2, f_q4_q2, f_q4_q3, f_q5_q2, f_q5_q3, f_q5_q4, rfl⟩ := q_
  subst e_
  refine v_eqs (st2 := [.ref q1]) rfl ?_
  have f_q2_q1 : q2 ≠ q1 := fr_ne b_q2 hU_s
  have f_q2_a : q2 ≠ a := fr_ne b_q2 ((hU_n (Ne.symm f_q1_a)).trans ha)
  have f_q2_by_ : q2 ≠ by_ := fr_ne b_q2 ((hU_n (Ne.symm f_q1_by_)).trans hb)
  have f_q3_q1 : q3 ≠ q1 := fr_ne b_q3 hU_s
  have f_q3_a : q3 ≠ a := fr_ne b_q3 ((hU_n (Ne.symm f_q1_a)).trans ha)
  have f_q3_by_ : q3 ≠ by_ := fr_ne b_q3 ((hU_n (Ne.symm f_q1_by_)).trans hb)
  have f_q4_q1 : q4 ≠ q1 := fr_ne b_q4 hU_s
  have f_q4_a : q4 ≠ a := fr_ne b_q4 ((hU_n (Ne.symm f_q1_a)).trans ha)
  have f_q4_by_ : q4 ≠ by_ := fr_ne b_q4 ((hU_n (Ne.symm f_q1_by_)).trans hb)
  have f_q5_q1 : q5 ≠ q1 := fr_ne b_q5 hU_s
  have f_q5_a : q5 ≠ a := fr_ne b_q5 ((hU_n (Ne.symm f_q1_a)).trans ha)
  have f_q5_by_ : q5 ≠ by_ := fr_ne b_q5 ((hU_n (Ne.symm f_q1_by_)).trans hb)
  have b_q2 : h q2 = none := (fr_U b_q2).1
  have b_q3 : h q3 = none := (fr_U b_q3).1
  have b_q4 : h q4 = none := (fr_U b_q4).1
  have b_q5 : h q5 = none := (fr_U b_q5).1
  refine v_eqh (h2 := (hU (hU (hU (hU (hU h q1 (ob 5 [.int 0, .ref q2, .ref q3, .ref q4, .ref q5])) q2 (ai g 6 (fun _ => 0))) q3 (ai g 6 (fun _ => 0))) q4 (ai g 6 (fun _ => 0))) q5 (ai g 6 (fun _ => 0)))) (Eq.trans (Eq.trans (Eq.trans (Eq.trans (congrArg (fun z => hU (hU (hU (hU (z) q2 (ai g 6 (fun _ => 0))) q3 (ai g 6 (fun _ => 0))) q4 (ai g 6 (fun _ => 0))) q5 (ai g 6 (fun _ => 0))) hU_u) (congrArg (fun z => hU (hU (hU (z) q3 (ai g 6 (fun _ => 0))) q4 (ai g 6 (fun _ => 0))) q5 (ai g 6 (fun _ => 0))) rfl)) (congrArg (fun z => hU (hU (z) q4 (ai g 6 (fun _ => 0))) q5 (ai g 6 (fun _ => 0))) rfl)) (congrArg (fun z => hU (z) q5 (ai g 6 (fun _ => 0))) rfl)) rfl) ?_
  refine v_astore_n (lv1 := [(1, .ref q1), (0, .ref a)]) X dX4_toWay_7 (by decide) rfl ?_
  refine v_eqh (h2 := (hU (hU (hU (hU (hU h q1 (ob 5 [.int (nI 0), .ref q2, .ref q3, .ref q4, .ref q5])) q2 (ai g 6 (fun _ => 0))) q3 (ai g 6 (fun _ => 0))) q4 (ai g 6 (fun _ => 0))) q5 (ai g 6 (fun _ => 0)))) rfl ?_
  refine v_aload_n X dX4_toWay_8 1 rfl ?_
  refine v_iconst X dX4_toWay_9 (v := 0) (by decide) ?_
  refine v_putE (h2 := (hU (hU (hU (hU (hU (hU h q1 (ob 5 [.int (nI 0), .ref q2, .ref q3, .ref q4, .ref q5])) q2 (ai g 6 (fun _ => 0))) q3 (ai g 6 (fun _ => 0))) q4 (ai g 6 (fun _ => 0))) q5 (ai g 6 (fun _ => 0))) a (ob 4 [.ref by_, .int (nI n), .int st, .int 0, .int tk, .int vl]))) X fX4_22 tyX4_ok nmX4 rfl pd_I ((hU_n (Ne.symm f_q5_a)).trans ((hU_n (Ne.symm f_q4_a)).trans ((hU_n (Ne.symm f_q3_a)).trans ((hU_n (Ne.symm f_q2_a)).trans ((hU_n (Ne.symm f_q1_a)).trans ha))))) rfl rfl (ltb rfl) dX4_toWay_10 rfl ?_
  refine v_aload_n X dX4_toWay_13 1 rfl ?_
  refine v_cVv X [] sX4_34 (ct_X4_nextToken ll g  hU_s ((hU_n ne_1).trans ((hU_n (Ne.symm f_q5_by_)).trans ((hU_n (Ne.symm f_q4_by_)).trans ((hU_n (Ne.symm f_q3_by_)).trans ((hU_n (Ne.symm f_q2_by_)).trans ((hU_n (Ne.symm f_q1_by_)).trans hb)))))) (Nat.zero_le _) hn) hU_s rfl dX4_toWay_14 rfl rfl ⟨rfl, rfl⟩ ⟨(Nat.le_of_ble_eq_true rfl), (Nat.le_of_ble_eq_true rfl)⟩ ⟨(Nat.le_of_ble_eq_true rfl), (Nat.le_of_ble_eq_true rfl)⟩ (Nat.le_of_ble_eq_true rfl) ?_
  refine v_eqh (h2 := (hU (hU (hU (hU (hU (hU h q1 (ob 5 [.int (nI 0), .ref q2, .ref q3, .ref q4, .ref q5])) q2 (ai g 6 (fun _ => 0))) q3 (ai g 6 (fun _ => 0))) q4 (ai g 6 (fun _ => 0))) q5 (ai g 6 (fun _ => 0))) a (ob 4 [.ref by_, .int (nI n), .int (nI (lkJ f n 0)), .int (nI (lkE f n 0)), .int (tkC f n 0), .int (vlC vl f n 0)]))) hU_u ?_
  refine v_iconst X dX4_toWay_17 (v := 0) (by decide) ?_
  refine v_istore_n (lv1 := [(2, .int 0), (1, .ref q1), (0, .ref a)]) X dX4_toWay_18 (by decide) rfl ?_
  have L19 : ∀ (N : Nat) (m e : Nat) (D f1 f2 f3 f4 : Nat → Int32) (v1 : Int32), (m ≤ 6) → (e ≤ n) → (D (110 + 25 * w) = nI m) → (wyF f n (110 + 25 * w) 7 0 D0 0 = wyF f n (110 + 25 * w) (7 - m) m D e) → (∀ k, k < m → RuleE (f1 k) (f2 k) (f3 k) (f4 k) D (110 + 25 * w + 1 + 4 * k)) → 6 - m < N → VJ K ((0 + 1) + 4) ((0 + 5) + 24) (hU (hU (hU (hU (hU (hU h q1 (ob 5 [.int (nI m), .ref q2, .ref q3, .ref q4, .ref q5])) q2 (ai g 6 f1)) q3 (ai g 6 f2)) q4 (ai g 6 f3)) q5 (ai g 6 f4)) a (ob 4 [.ref by_, .int (nI n), .int (nI (lkJ f n e)), .int (nI (lkE f n e)), .int (tkC f n e), .int v1])) 19 [(0, .ref a), (1, .ref q1), (2, .int (nI m))] [] := by
    intro N
    induction N with
    | zero => intro m e D f1 f2 f3 f4 v1 _ _ _ _ _ hm; exact absurd hm (Nat.not_lt_zero _)
    | succ N ih19 =>
      intro m e D f1 f2 f3 f4 v1 hm hen hDw hR hru hm
      refine v_iload_n X dX4_toWay_19 2 rfl ?_
      refine v_bipush X dX4_toWay_20 (v := 6) (by decide) ?_
      refine v_icmp_ge X dX4_toWay_22 (tgt := 66) (by decide) (fun c1 => ?_) (fun c1 => ?_)
      · refine v_null X dX4_toWay_66 ?_
        have hm6 : m = 6 := by
          rcases Nat.lt_or_ge m 6 with z | z
          · exact absurd c1 (nI_ge (a := m) (b := 6) z (by decide))
          · omega
        have hd : 6 ≤ D (110 + 25 * w) := by rw [hDw, hm6]; decide
        have hA : rdA f n e D (110 + 25 * w) = e := by unfold rdA; rw [if_neg (fun q => q.2 hd)]
        have hRR := wyF_f hR (fun q => q.1.1.2 hd)
        rw [hA] at hRR
        exact v_aret X r (Or.inl ⟨_, rfl⟩) (Or.inl rfl) dX4_toWay_67 (Nat.le_of_ble_eq_true rfl) (Nat.le_of_ble_eq_true rfl) ⟨(fun x hx hxa => ((hU_n hxa).trans ((hU_n (fr_x b_q5 hx)).trans ((hU_n (fr_x b_q4 hx)).trans ((hU_n (fr_x b_q3 hx)).trans ((hU_n (fr_x b_q2 hx)).trans (hU_n (fr_x b_q1 hx)))))))), ⟨_, _, _, by rw [hRR]; exact hU_s⟩, Or.inr ⟨by rw [hRR], rfl⟩⟩
      · have hm6 : m < 6 := by
          rcases Nat.lt_or_ge m 6 with z | z
          · exact z
          · exact absurd (nI_le z (by omega)) c1
        have hd : ¬ 6 ≤ D (110 + 25 * w) := by rw [hDw]; exact nI_ge (a := m) (b := 6) hm6 (by decide)
        have hR2 : wyF f n (110 + 25 * w) 7 0 D0 0 = wyF f n (110 + 25 * w) ((7 - (m + 1)) + 1) m D e := by rw [show (7 - (m + 1)) + 1 = 7 - m by omega]; exact hR
        refine v_aload_n X dX4_toWay_25 0 rfl ?_
        refine v_aload_n X dX4_toWay_26 1 rfl ?_
        refine v_cV X (av := [.ref q1]) sX4_37 (ct_X4_takeRule (e := e) (c := m) ll g hU_s ((hU_n ne_1).trans ((hU_n (Ne.symm f_q5_by_)).trans ((hU_n (Ne.symm f_q4_by_)).trans ((hU_n (Ne.symm f_q3_by_)).trans ((hU_n (Ne.symm f_q2_by_)).trans ((hU_n (Ne.symm f_q1_by_)).trans hb)))))) ((hU_n f_q1_a).trans ((hU_n (Ne.symm f_q5_q1)).trans ((hU_n (Ne.symm f_q4_q1)).trans ((hU_n (Ne.symm f_q3_q1)).trans ((hU_n (Ne.symm f_q2_q1)).trans hU_s))))) ((hU_n f_q2_a).trans ((hU_n (Ne.symm f_q5_q2)).trans ((hU_n (Ne.symm f_q4_q2)).trans ((hU_n (Ne.symm f_q3_q2)).trans hU_s)))) ((hU_n f_q3_a).trans ((hU_n (Ne.symm f_q5_q3)).trans ((hU_n (Ne.symm f_q4_q3)).trans hU_s))) ((hU_n f_q4_a).trans ((hU_n (Ne.symm f_q5_q4)).trans hU_s)) ((hU_n f_q5_a).trans hU_s) (by omega) hen hn (Ne.symm f_q3_q2) (Ne.symm f_q4_q2) (Ne.symm f_q5_q2) (Ne.symm f_q4_q3) (Ne.symm f_q5_q3) (Ne.symm f_q5_q4)) hU_s rfl dX4_toWay_27 rfl rfl ⟨rfl, rfl⟩ ⟨(Nat.le_of_ble_eq_true rfl), (Nat.le_of_ble_eq_true rfl)⟩ ⟨(Nat.le_of_ble_eq_true rfl), (Nat.le_of_ble_eq_true rfl)⟩ (Nat.le_of_ble_eq_true rfl) (fun r_ h_ q_ => ?_)
        obtain ⟨v2, bd, hbd, e_, rfl⟩ := q_
        subst e_
        refine v_eqs (st2 := [.int (bI (rkOk f n e))]) rfl ?_
        refine v_eqh (h2 := (hU (hU (hU (hU (hU (hU h q1 (ob 5 [.int (nI (rkC (rkOk f n e) m)), .ref q2, .ref q3, .ref q4, .ref q5])) q2 (ai g 6 (rkF (rkOk f n e) f1 m (nameAt f n e)))) q3 (ai g 6 (rkF (rkOk f n e) f2 m (tkC f n (lkE f n e))))) q4 (ai g 6 (rkF (rkOk f n e) f3 m bd))) q5 (ai g 6 (rkF (rkOk f n e) f4 m (deedAt f n (rdA3 f n e))))) a (ob 4 [.ref by_, .int (nI n), .int (nI (lkJ f n (rkA f n e))), .int (nI (lkE f n (rkA f n e))), .int (tkC f n (rkA f n e)), .int v2]))) (Eq.trans (Eq.trans (Eq.trans (Eq.trans (Eq.trans (congrArg (fun z => hU (hU (hU (hU (hU (z) q2 (ai g 6 (rkF (rkOk f n e) f1 m (nameAt f n e)))) q3 (ai g 6 (rkF (rkOk f n e) f2 m (tkC f n (lkE f n e))))) q4 (ai g 6 (rkF (rkOk f n e) f3 m bd))) q5 (ai g 6 (rkF (rkOk f n e) f4 m (deedAt f n (rdA3 f n e))))) q1 (ob 5 [.int (nI (rkC (rkOk f n e) m)), .ref q2, .ref q3, .ref q4, .ref q5])) hU_u) (congrArg (fun z => hU (hU (hU (hU (z) q3 (ai g 6 (rkF (rkOk f n e) f2 m (tkC f n (lkE f n e))))) q4 (ai g 6 (rkF (rkOk f n e) f3 m bd))) q5 (ai g 6 (rkF (rkOk f n e) f4 m (deedAt f n (rdA3 f n e))))) q1 (ob 5 [.int (nI (rkC (rkOk f n e) m)), .ref q2, .ref q3, .ref q4, .ref q5])) (hU_u5 f_q3_q2 f_q4_q2 f_q5_q2 (Ne.symm f_q2_a)))) (congrArg (fun z => hU (hU (hU (z) q4 (ai g 6 (rkF (rkOk f n e) f3 m bd))) q5 (ai g 6 (rkF (rkOk f n e) f4 m (deedAt f n (rdA3 f n e))))) q1 (ob 5 [.int (nI (rkC (rkOk f n e) m)), .ref q2, .ref q3, .ref q4, .ref q5])) (hU_u4 f_q4_q3 f_q5_q3 (Ne.symm f_q3_a)))) (congrArg (fun z => hU (hU (z) q5 (ai g 6 (rkF (rkOk f n e) f4 m (deedAt f n (rdA3 f n e))))) q1 (ob 5 [.int (nI (rkC (rkOk f n e) m)), .ref q2, .ref q3, .ref q4, .ref q5])) (hU_u3 f_q5_q4 (Ne.symm f_q4_a)))) (congrArg (fun z => hU (z) q1 (ob 5 [.int (nI (rkC (rkOk f n e) m)), .ref q2, .ref q3, .ref q4, .ref q5])) (hU_u2 (Ne.symm f_q5_a)))) (hU_u6 f_q2_q1 f_q3_q1 f_q4_q1 f_q5_q1 (Ne.symm f_q1_a))) ?_
        refine v_ifb_ne X dX4_toWay_30 (tgt := 35) (by decide) (fun c2 => ?_) (fun c2 => ?_)
        · refine v_eqh (h2 := (hU (hU (hU (hU (hU (hU h q1 (ob 5 [.int (nI (m + 1)), .ref q2, .ref q3, .ref q4, .ref q5])) q2 (ai g 6 (upd f1 m (nameAt f n e)))) q3 (ai g 6 (upd f2 m (tkC f n (lkE f n e))))) q4 (ai g 6 (upd f3 m bd))) q5 (ai g 6 (upd f4 m (deedAt f n (rdA3 f n e))))) a (ob 4 [.ref by_, .int (nI n), .int (nI (lkJ f n (rkA f n e))), .int (nI (lkE f n (rkA f n e))), .int (tkC f n (rkA f n e)), .int v2]))) (by simp only [rkF, rkC, if_pos c2]) ?_
          refine v_aload_n X dX4_toWay_35 0 rfl ?_
          refine v_get X fX4_25 hU_s rfl dX4_toWay_36 ?_
          refine v_iconst X dX4_toWay_39 (v := (-1)) (by decide) ?_
          refine v_icmp_ne X dX4_toWay_40 (tgt := 45) (by decide) (fun c3 => ?_) (fun c3 => ?_)
          · refine v_aload_n X dX4_toWay_45 0 rfl ?_
            refine v_get X fX4_25 hU_s rfl dX4_toWay_46 ?_
            refine v_bipush X dX4_toWay_49 (v := 59) (by decide) ?_
            refine v_icmp_eq X dX4_toWay_51 (tgt := 56) (by decide) (fun c4 => ?_) (fun c4 => ?_)
            · refine v_aload_n X dX4_toWay_56 0 rfl ?_
              refine v_cVv X [] sX4_34 (ct_X4_nextToken ll g  hU_s ((hU_n ne_1).trans ((hU_n (Ne.symm f_q5_by_)).trans ((hU_n (Ne.symm f_q4_by_)).trans ((hU_n (Ne.symm f_q3_by_)).trans ((hU_n (Ne.symm f_q2_by_)).trans ((hU_n (Ne.symm f_q1_by_)).trans hb)))))) (lkE_le (rkA_le hen)) hn) hU_s rfl dX4_toWay_57 rfl rfl ⟨rfl, rfl⟩ ⟨(Nat.le_of_ble_eq_true rfl), (Nat.le_of_ble_eq_true rfl)⟩ ⟨(Nat.le_of_ble_eq_true rfl), (Nat.le_of_ble_eq_true rfl)⟩ (Nat.le_of_ble_eq_true rfl) ?_
              refine v_eqh (h2 := (hU (hU (hU (hU (hU (hU h q1 (ob 5 [.int (nI (m + 1)), .ref q2, .ref q3, .ref q4, .ref q5])) q2 (ai g 6 (upd f1 m (nameAt f n e)))) q3 (ai g 6 (upd f2 m (tkC f n (lkE f n e))))) q4 (ai g 6 (upd f3 m bd))) q5 (ai g 6 (upd f4 m (deedAt f n (rdA3 f n e))))) a (ob 4 [.ref by_, .int (nI n), .int (nI (lkJ f n (lkE f n (rkA f n e)))), .int (nI (lkE f n (lkE f n (rkA f n e)))), .int (tkC f n (lkE f n (rkA f n e))), .int (vlC v2 f n (lkE f n (rkA f n e)))]))) hU_u ?_
              refine v_iinc (v := (nI m) + 1) (lv1 := [(2, .int ((nI m) + 1)), (0, .ref a), (1, .ref q1)]) X dX4_toWay_60 2 rfl rfl (by decide) rfl ?_
              refine v_goto X dX4_toWay_63 (tgt := 19) (by decide) ?_
              have o2 : rdOk f n e D (110 + 25 * w) := (rkOk_d hd).mpr c2
              refine v_lv (lv2 := [(0, .ref a), (1, .ref q1), (2, .int ((nI m) + 1))]) [1, 2, 0] rfl ?_
              refine v_eqv (lv2 := [(0, .ref a), (1, .ref q1), (2, .int (nI (m + 1)))]) (by rw [nI_1]) ?_
              exact ih19 (m + 1) (lkE f n (rkA f n e)) (rdD f n e D (110 + 25 * w) (110 + 25 * w + 1 + 4 * m)) (upd f1 m (nameAt f n e)) (upd f2 m (tkC f n (lkE f n e))) (upd f3 m bd) (upd f4 m (deedAt f n (rdA3 f n e))) (vlC v2 f n (lkE f n (rkA f n e))) (by omega) (lkE_le (rkA_le hen)) (rdD_w (by omega) hDw o2) (by have z := wyF_s hR2 o2 (by rw [rkA_d hd]; exact fun y => c3 (tkEnd.mpr y)) (by rw [rkA_d hd]; exact sg59.mp c4); rw [rkA_d hd] at z; exact z) (rules_s hd c2 (hbd c2) hru) (by omega)
            · refine v_null X dX4_toWay_54 ?_
              have hRR := wyF_f hR (fun q => by rw [rkA_d hd] at q; exact q.2.elim (fun y => c3 (tkEnd.mpr y)) (fun y => c4 (sg59.mpr y)))
              rw [rkA_d hd] at hRR
              exact v_aret X r (Or.inl ⟨_, rfl⟩) (Or.inl rfl) dX4_toWay_55 (Nat.le_of_ble_eq_true rfl) (Nat.le_of_ble_eq_true rfl) ⟨(fun x hx hxa => ((hU_n hxa).trans ((hU_n (fr_x b_q5 hx)).trans ((hU_n (fr_x b_q4 hx)).trans ((hU_n (fr_x b_q3 hx)).trans ((hU_n (fr_x b_q2 hx)).trans (hU_n (fr_x b_q1 hx)))))))), ⟨_, _, _, by rw [hRR]; exact hU_s⟩, Or.inr ⟨by rw [hRR], rfl⟩⟩
          · refine v_aload_n X dX4_toWay_43 1 rfl ?_
            have o2 : rdOk f n e D (110 + 25 * w) := (rkOk_d hd).mpr c2
            have hRR : wyF f n (110 + 25 * w) 7 0 D0 0 = (true, rkA f n e, rdD f n e D (110 + 25 * w) (110 + 25 * w + 1 + 4 * m)) := by rw [← rkA_d (n := n) (e := e) hd]; exact wyF_t hR2 o2 (by rw [rkA_d hd]; exact tkEnd.mp c3)
            exact v_aret X r (Or.inl ⟨_, rfl⟩) (Or.inr ⟨_, rfl⟩) dX4_toWay_44 (Nat.le_of_ble_eq_true rfl) (Nat.le_of_ble_eq_true rfl) ⟨(fun x hx hxa => ((hU_n hxa).trans ((hU_n (fr_x b_q5 hx)).trans ((hU_n (fr_x b_q4 hx)).trans ((hU_n (fr_x b_q3 hx)).trans ((hU_n (fr_x b_q2 hx)).trans (hU_n (fr_x b_q1 hx)))))))), ⟨_, _, _, by rw [hRR]; exact hU_s⟩, Or.inl ⟨by rw [hRR], q1, rfl, b_q1, by rw [hRR]; exact ⟨m + 1, q2, q3, q4, q5, _, _, _, _, ((hU_n f_q1_a).trans ((hU_n (Ne.symm f_q5_q1)).trans ((hU_n (Ne.symm f_q4_q1)).trans ((hU_n (Ne.symm f_q3_q1)).trans ((hU_n (Ne.symm f_q2_q1)).trans hU_s))))), ((hU_n f_q2_a).trans ((hU_n (Ne.symm f_q5_q2)).trans ((hU_n (Ne.symm f_q4_q2)).trans ((hU_n (Ne.symm f_q3_q2)).trans hU_s)))), ((hU_n f_q3_a).trans ((hU_n (Ne.symm f_q5_q3)).trans ((hU_n (Ne.symm f_q4_q3)).trans hU_s))), ((hU_n f_q4_a).trans ((hU_n (Ne.symm f_q5_q4)).trans hU_s)), ((hU_n f_q5_a).trans hU_s), by omega, rdD_w (by omega) hDw o2, rules_s hd c2 (hbd c2) hru⟩⟩⟩
        · refine v_null X dX4_toWay_33 ?_
          have hRR := wyF_f hR (fun q => c2 ((rkOk_d hd).mp q.1))
          rw [rkA_d hd] at hRR
          exact v_aret X r (Or.inl ⟨_, rfl⟩) (Or.inl rfl) dX4_toWay_34 (Nat.le_of_ble_eq_true rfl) (Nat.le_of_ble_eq_true rfl) ⟨(fun x hx hxa => ((hU_n hxa).trans ((hU_n (fr_x b_q5 hx)).trans ((hU_n (fr_x b_q4 hx)).trans ((hU_n (fr_x b_q3 hx)).trans ((hU_n (fr_x b_q2 hx)).trans (hU_n (fr_x b_q1 hx)))))))), ⟨_, _, _, by rw [hRR]; exact hU_s⟩, Or.inr ⟨by rw [hRR], rfl⟩⟩
  refine v_lv (lv2 := [(0, .ref a), (1, .ref q1), (2, .int 0)]) [2, 1, 0] rfl ?_
  refine v_eqv (lv2 := [(0, .ref a), (1, .ref q1), (2, .int (nI 0))]) rfl ?_
  exact L19 _ 0 0 D0 (fun _ => 0) (fun _ => 0) (fun _ => 0) (fun _ => 0) (vlC vl f n 0) (Nat.zero_le _) (Nat.zero_le _) hD0 rfl (fun k hk => absurd hk (Nat.not_lt_zero k)) (Nat.lt_succ_self _)
