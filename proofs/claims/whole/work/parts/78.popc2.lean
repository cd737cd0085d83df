/-! PURE: bitCount is a sum of bits -/
theorem pc8_m (m : Nat) : pc8 (m % 256) = m % 2 + m / 2 % 2 + m / 4 % 2 + m / 8 % 2 + m / 16 % 2 + m / 32 % 2 + m / 64 % 2 + m / 128 % 2 := by
  unfold pc8
  rw [show m % 256 % 2 = m % 2 by omega, show m % 256 / 2 % 2 = m / 2 % 2 by omega, show m % 256 / 4 % 2 = m / 4 % 2 by omega, show m % 256 / 8 % 2 = m / 8 % 2 by omega, show m % 256 / 16 % 2 = m / 16 % 2 by omega, show m % 256 / 32 % 2 = m / 32 % 2 by omega, show m % 256 / 64 % 2 = m / 64 % 2 by omega, show m % 256 / 128 % 2 = m / 128 % 2 by omega]
theorem sm_30 (f : Int → Int) : sm f 30 = f 0 + f 1 + f 2 + f 3 + f 4 + f 5 + f 6 + f 7 + f 8 + f 9 + f 10 + f 11 + f 12 + f 13 + f 14 + f 15 + f 16 + f 17 + f 18 + f 19 + f 20 + f 21 + f 22 + f 23 + f 24 + f 25 + f 26 + f 27 + f 28 + f 29 := by
  have e0 : sm f (0 + 1) = sm f 0 + f 0 := sm_s (by omega)
  have e1 : sm f (1 + 1) = sm f 1 + f 1 := sm_s (by omega)
  have e2 : sm f (2 + 1) = sm f 2 + f 2 := sm_s (by omega)
  have e3 : sm f (3 + 1) = sm f 3 + f 3 := sm_s (by omega)
  have e4 : sm f (4 + 1) = sm f 4 + f 4 := sm_s (by omega)
  have e5 : sm f (5 + 1) = sm f 5 + f 5 := sm_s (by omega)
  have e6 : sm f (6 + 1) = sm f 6 + f 6 := sm_s (by omega)
  have e7 : sm f (7 + 1) = sm f 7 + f 7 := sm_s (by omega)
  have e8 : sm f (8 + 1) = sm f 8 + f 8 := sm_s (by omega)
  have e9 : sm f (9 + 1) = sm f 9 + f 9 := sm_s (by omega)
  have e10 : sm f (10 + 1) = sm f 10 + f 10 := sm_s (by omega)
  have e11 : sm f (11 + 1) = sm f 11 + f 11 := sm_s (by omega)
  have e12 : sm f (12 + 1) = sm f 12 + f 12 := sm_s (by omega)
  have e13 : sm f (13 + 1) = sm f 13 + f 13 := sm_s (by omega)
  have e14 : sm f (14 + 1) = sm f 14 + f 14 := sm_s (by omega)
  have e15 : sm f (15 + 1) = sm f 15 + f 15 := sm_s (by omega)
  have e16 : sm f (16 + 1) = sm f 16 + f 16 := sm_s (by omega)
  have e17 : sm f (17 + 1) = sm f 17 + f 17 := sm_s (by omega)
  have e18 : sm f (18 + 1) = sm f 18 + f 18 := sm_s (by omega)
  have e19 : sm f (19 + 1) = sm f 19 + f 19 := sm_s (by omega)
  have e20 : sm f (20 + 1) = sm f 20 + f 20 := sm_s (by omega)
  have e21 : sm f (21 + 1) = sm f 21 + f 21 := sm_s (by omega)
  have e22 : sm f (22 + 1) = sm f 22 + f 22 := sm_s (by omega)
  have e23 : sm f (23 + 1) = sm f 23 + f 23 := sm_s (by omega)
  have e24 : sm f (24 + 1) = sm f 24 + f 24 := sm_s (by omega)
  have e25 : sm f (25 + 1) = sm f 25 + f 25 := sm_s (by omega)
  have e26 : sm f (26 + 1) = sm f 26 + f 26 := sm_s (by omega)
  have e27 : sm f (27 + 1) = sm f 27 + f 27 := sm_s (by omega)
  have e28 : sm f (28 + 1) = sm f 28 + f 28 := sm_s (by omega)
  have e29 : sm f (29 + 1) = sm f 29 + f 29 := sm_s (by omega)
  have z : sm f 0 = 0 := rfl
  rw [show (0 : Int) + 1 = 1 from rfl] at e0
  rw [show (1 : Int) + 1 = 2 from rfl] at e1
  rw [show (2 : Int) + 1 = 3 from rfl] at e2
  rw [show (3 : Int) + 1 = 4 from rfl] at e3
  rw [show (4 : Int) + 1 = 5 from rfl] at e4
  rw [show (5 : Int) + 1 = 6 from rfl] at e5
  rw [show (6 : Int) + 1 = 7 from rfl] at e6
  rw [show (7 : Int) + 1 = 8 from rfl] at e7
  rw [show (8 : Int) + 1 = 9 from rfl] at e8
  rw [show (9 : Int) + 1 = 10 from rfl] at e9
  rw [show (10 : Int) + 1 = 11 from rfl] at e10
  rw [show (11 : Int) + 1 = 12 from rfl] at e11
  rw [show (12 : Int) + 1 = 13 from rfl] at e12
  rw [show (13 : Int) + 1 = 14 from rfl] at e13
  rw [show (14 : Int) + 1 = 15 from rfl] at e14
  rw [show (15 : Int) + 1 = 16 from rfl] at e15
  rw [show (16 : Int) + 1 = 17 from rfl] at e16
  rw [show (17 : Int) + 1 = 18 from rfl] at e17
  rw [show (18 : Int) + 1 = 19 from rfl] at e18
  rw [show (19 : Int) + 1 = 20 from rfl] at e19
  rw [show (20 : Int) + 1 = 21 from rfl] at e20
  rw [show (21 : Int) + 1 = 22 from rfl] at e21
  rw [show (22 : Int) + 1 = 23 from rfl] at e22
  rw [show (23 : Int) + 1 = 24 from rfl] at e23
  rw [show (24 : Int) + 1 = 25 from rfl] at e24
  rw [show (25 : Int) + 1 = 26 from rfl] at e25
  rw [show (26 : Int) + 1 = 27 from rfl] at e26
  rw [show (27 : Int) + 1 = 28 from rfl] at e27
  rw [show (28 : Int) + 1 = 29 from rfl] at e28
  rw [show (29 : Int) + 1 = 30 from rfl] at e29
  omega
theorem bits_30 {n : Nat} (h : n < 1073741824) : ((pS n % 64 : Nat) : Int) = sm (btA (n : Int)) 30 := by
  have e := popc_all (c0 := n % 256) (c1 := n / 256 % 256) (c2 := n / 65536 % 256) (c3 := n / 16777216 % 256) (by omega) (by omega) (by omega) (by omega)
  rw [show n % 256 + 256 * (n / 256 % 256) + 65536 * (n / 65536 % 256) + 16777216 * (n / 16777216 % 256) = n by omega] at e
  rw [e, sm_30, pc8_m, pc8_m, pc8_m, pc8_m]
  have b0 : btA (n : Int) 0 = ((n / 1 % 2 : Nat) : Int) := by unfold btA; rw [show (2 : Int) ^ (0 : Int).toNat = 1 from rfl]; omega
  have b1 : btA (n : Int) 1 = ((n / 2 % 2 : Nat) : Int) := by unfold btA; rw [show (2 : Int) ^ (1 : Int).toNat = 2 from rfl]; omega
  have b2 : btA (n : Int) 2 = ((n / 4 % 2 : Nat) : Int) := by unfold btA; rw [show (2 : Int) ^ (2 : Int).toNat = 4 from rfl]; omega
  have b3 : btA (n : Int) 3 = ((n / 8 % 2 : Nat) : Int) := by unfold btA; rw [show (2 : Int) ^ (3 : Int).toNat = 8 from rfl]; omega
  have b4 : btA (n : Int) 4 = ((n / 16 % 2 : Nat) : Int) := by unfold btA; rw [show (2 : Int) ^ (4 : Int).toNat = 16 from rfl]; omega
  have b5 : btA (n : Int) 5 = ((n / 32 % 2 : Nat) : Int) := by unfold btA; rw [show (2 : Int) ^ (5 : Int).toNat = 32 from rfl]; omega
  have b6 : btA (n : Int) 6 = ((n / 64 % 2 : Nat) : Int) := by unfold btA; rw [show (2 : Int) ^ (6 : Int).toNat = 64 from rfl]; omega
  have b7 : btA (n : Int) 7 = ((n / 128 % 2 : Nat) : Int) := by unfold btA; rw [show (2 : Int) ^ (7 : Int).toNat = 128 from rfl]; omega
  have b8 : btA (n : Int) 8 = ((n / 256 % 2 : Nat) : Int) := by unfold btA; rw [show (2 : Int) ^ (8 : Int).toNat = 256 from rfl]; omega
  have b9 : btA (n : Int) 9 = ((n / 512 % 2 : Nat) : Int) := by unfold btA; rw [show (2 : Int) ^ (9 : Int).toNat = 512 from rfl]; omega
  have b10 : btA (n : Int) 10 = ((n / 1024 % 2 : Nat) : Int) := by unfold btA; rw [show (2 : Int) ^ (10 : Int).toNat = 1024 from rfl]; omega
  have b11 : btA (n : Int) 11 = ((n / 2048 % 2 : Nat) : Int) := by unfold btA; rw [show (2 : Int) ^ (11 : Int).toNat = 2048 from rfl]; omega
  have b12 : btA (n : Int) 12 = ((n / 4096 % 2 : Nat) : Int) := by unfold btA; rw [show (2 : Int) ^ (12 : Int).toNat = 4096 from rfl]; omega
  have b13 : btA (n : Int) 13 = ((n / 8192 % 2 : Nat) : Int) := by unfold btA; rw [show (2 : Int) ^ (13 : Int).toNat = 8192 from rfl]; omega
  have b14 : btA (n : Int) 14 = ((n / 16384 % 2 : Nat) : Int) := by unfold btA; rw [show (2 : Int) ^ (14 : Int).toNat = 16384 from rfl]; omega
  have b15 : btA (n : Int) 15 = ((n / 32768 % 2 : Nat) : Int) := by unfold btA; rw [show (2 : Int) ^ (15 : Int).toNat = 32768 from rfl]; omega
  have b16 : btA (n : Int) 16 = ((n / 65536 % 2 : Nat) : Int) := by unfold btA; rw [show (2 : Int) ^ (16 : Int).toNat = 65536 from rfl]; omega
  have b17 : btA (n : Int) 17 = ((n / 131072 % 2 : Nat) : Int) := by unfold btA; rw [show (2 : Int) ^ (17 : Int).toNat = 131072 from rfl]; omega
  have b18 : btA (n : Int) 18 = ((n / 262144 % 2 : Nat) : Int) := by unfold btA; rw [show (2 : Int) ^ (18 : Int).toNat = 262144 from rfl]; omega
  have b19 : btA (n : Int) 19 = ((n / 524288 % 2 : Nat) : Int) := by unfold btA; rw [show (2 : Int) ^ (19 : Int).toNat = 524288 from rfl]; omega
  have b20 : btA (n : Int) 20 = ((n / 1048576 % 2 : Nat) : Int) := by unfold btA; rw [show (2 : Int) ^ (20 : Int).toNat = 1048576 from rfl]; omega
  have b21 : btA (n : Int) 21 = ((n / 2097152 % 2 : Nat) : Int) := by unfold btA; rw [show (2 : Int) ^ (21 : Int).toNat = 2097152 from rfl]; omega
  have b22 : btA (n : Int) 22 = ((n / 4194304 % 2 : Nat) : Int) := by unfold btA; rw [show (2 : Int) ^ (22 : Int).toNat = 4194304 from rfl]; omega
  have b23 : btA (n : Int) 23 = ((n / 8388608 % 2 : Nat) : Int) := by unfold btA; rw [show (2 : Int) ^ (23 : Int).toNat = 8388608 from rfl]; omega
  have b24 : btA (n : Int) 24 = ((n / 16777216 % 2 : Nat) : Int) := by unfold btA; rw [show (2 : Int) ^ (24 : Int).toNat = 16777216 from rfl]; omega
  have b25 : btA (n : Int) 25 = ((n / 33554432 % 2 : Nat) : Int) := by unfold btA; rw [show (2 : Int) ^ (25 : Int).toNat = 33554432 from rfl]; omega
  have b26 : btA (n : Int) 26 = ((n / 67108864 % 2 : Nat) : Int) := by unfold btA; rw [show (2 : Int) ^ (26 : Int).toNat = 67108864 from rfl]; omega
  have b27 : btA (n : Int) 27 = ((n / 134217728 % 2 : Nat) : Int) := by unfold btA; rw [show (2 : Int) ^ (27 : Int).toNat = 134217728 from rfl]; omega
  have b28 : btA (n : Int) 28 = ((n / 268435456 % 2 : Nat) : Int) := by unfold btA; rw [show (2 : Int) ^ (28 : Int).toNat = 268435456 from rfl]; omega
  have b29 : btA (n : Int) 29 = ((n / 536870912 % 2 : Nat) : Int) := by unfold btA; rw [show (2 : Int) ^ (29 : Int).toNat = 536870912 from rfl]; omega
  rw [b0, b1, b2, b3, b4, b5, b6, b7, b8, b9, b10, b11, b12, b13, b14, b15, b16, b17, b18, b19, b20, b21, b22, b23, b24, b25, b26, b27, b28, b29]
  rw [show n / 256 / 2 = n / 512 by omega]
  rw [show n / 256 / 4 = n / 1024 by omega]
  rw [show n / 256 / 8 = n / 2048 by omega]
  rw [show n / 256 / 16 = n / 4096 by omega]
  rw [show n / 256 / 32 = n / 8192 by omega]
  rw [show n / 256 / 64 = n / 16384 by omega]
  rw [show n / 256 / 128 = n / 32768 by omega]
  rw [show n / 65536 / 2 = n / 131072 by omega]
  rw [show n / 65536 / 4 = n / 262144 by omega]
  rw [show n / 65536 / 8 = n / 524288 by omega]
  rw [show n / 65536 / 16 = n / 1048576 by omega]
  rw [show n / 65536 / 32 = n / 2097152 by omega]
  rw [show n / 65536 / 64 = n / 4194304 by omega]
  rw [show n / 65536 / 128 = n / 8388608 by omega]
  rw [show n / 16777216 / 2 = n / 33554432 by omega]
  rw [show n / 16777216 / 4 = n / 67108864 by omega]
  rw [show n / 16777216 / 8 = n / 134217728 by omega]
  rw [show n / 16777216 / 16 = n / 268435456 by omega]
  rw [show n / 16777216 / 32 = n / 536870912 by omega]
  rw [show n / 16777216 / 64 = n / 1073741824 by omega]
  rw [show n / 16777216 / 128 = n / 2147483648 by omega]
  rw [show n / 1073741824 % 2 = 0 by omega, show n / 2147483648 % 2 = 0 by omega, show n / 1 = n by omega]
  omega
