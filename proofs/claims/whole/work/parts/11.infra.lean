/-! what the shapes say, as equations for simp -/
theorem fv6_0 {σ : mj_S} : mj_fv 6 0 σ 0 = some (.ref 1) := rfl
theorem fv6_1 {σ : mj_S} : mj_fv 6 1 σ 0 = some (.ref 2) := rfl
theorem fv6_2 {σ : mj_S} : mj_fv 6 2 σ 0 = some (.ref 3) := rfl
theorem fv6_3 {σ : mj_S} : mj_fv 6 3 σ 0 = some (.int (σ 0 3)) := rfl
theorem fw6_3 : mj_fw 6 3 0 = true := rfl
theorem fv6_4 {σ : mj_S} : mj_fv 6 4 σ 0 = some (.ref 7) := rfl
theorem fv6_5 {σ : mj_S} : mj_fv 6 5 σ 0 = some (.ref 8) := rfl
theorem fv6_6 {σ : mj_S} : mj_fv 6 6 σ 0 = some (.ref 9) := rfl
theorem fv6_7 {σ : mj_S} : mj_fv 6 7 σ 0 = some (.ref 59) := rfl
theorem fv6_8 {σ : mj_S} : mj_fv 6 8 σ 0 = some (.ref 61) := rfl
theorem fv6_9 {σ : mj_S} : mj_fv 6 9 σ 0 = some (.int (σ 0 9)) := rfl
theorem fw6_9 : mj_fw 6 9 0 = true := rfl
theorem rc6 : mj_rcv 0 6 = true := rfl
theorem fv2_0 {σ : mj_S} : mj_fv 2 0 σ 8 = some (.ref 56) := rfl
theorem fv2_1 {σ : mj_S} : mj_fv 2 1 σ 8 = some (.ref 57) := rfl
theorem rc2 : mj_rcv 8 2 = true := rfl
theorem fv3_0 {σ : mj_S} : mj_fv 3 0 σ 9 = some (.int (σ 9 0)) := rfl
theorem fw3_0 : mj_fw 3 0 9 = true := rfl
theorem fv3_1 {σ : mj_S} : mj_fv 3 1 σ 9 = some (.ref 58) := rfl
theorem fv3_2 {σ : mj_S} : mj_fv 3 2 σ 9 = some (.int (σ 9 2)) := rfl
theorem fw3_2 : mj_fw 3 2 9 = true := rfl
theorem rc3 : mj_rcv 9 3 = true := rfl
theorem fv5_0 {σ : mj_S} : mj_fv 5 0 σ 59 = some (.int (σ 59 0)) := rfl
theorem fw5_0 : mj_fw 5 0 59 = true := rfl
theorem fv5_1 {σ : mj_S} : mj_fv 5 1 σ 59 = some (.ref 60) := rfl
theorem fv5_2 {σ : mj_S} : mj_fv 5 2 σ 59 = some (.int (σ 59 2)) := rfl
theorem fw5_2 : mj_fw 5 2 59 = true := rfl
theorem fv5_3 {σ : mj_S} : mj_fv 5 3 σ 59 = some (.int (σ 59 3)) := rfl
theorem fw5_3 : mj_fw 5 3 59 = true := rfl
theorem fv5_4 {σ : mj_S} : mj_fv 5 4 σ 59 = some (.int (σ 59 4)) := rfl
theorem fw5_4 : mj_fw 5 4 59 = true := rfl
theorem rc5 : mj_rcv 59 5 = true := rfl
theorem fv7_0 {σ : mj_S} : mj_fv 7 0 σ 62 = some (.int (σ 62 0)) := rfl
theorem fw7_0 : mj_fw 7 0 62 = true := rfl
theorem fv7_1 {σ : mj_S} : mj_fv 7 1 σ 62 = some (.int (σ 62 1)) := rfl
theorem fw7_1 : mj_fw 7 1 62 = true := rfl
theorem fv7_2 {σ : mj_S} : mj_fv 7 2 σ 62 = some (.int (σ 62 2)) := rfl
theorem fw7_2 : mj_fw 7 2 62 = true := rfl
theorem fv7_3 {σ : mj_S} : mj_fv 7 3 σ 62 = some (.int (σ 62 3)) := rfl
theorem fw7_3 : mj_fw 7 3 62 = true := rfl
theorem fv7_4 {σ : mj_S} : mj_fv 7 4 σ 62 = some (.int (σ 62 4)) := rfl
theorem fw7_4 : mj_fw 7 4 62 = true := rfl
theorem fv7_5 {σ : mj_S} : mj_fv 7 5 σ 62 = some (.int (σ 62 5)) := rfl
theorem fw7_5 : mj_fw 7 5 62 = true := rfl
theorem fv7_6 {σ : mj_S} : mj_fv 7 6 σ 62 = some (.ref 63) := rfl
theorem fv7_7 {σ : mj_S} : mj_fv 7 7 σ 62 = some (.ref 64) := rfl
theorem fv7_8 {σ : mj_S} : mj_fv 7 8 σ 62 = some (.ref 65) := rfl
theorem fv7_9 {σ : mj_S} : mj_fv 7 9 σ 62 = some (.ref 66) := rfl
theorem fv7_10 {σ : mj_S} : mj_fv 7 10 σ 62 = some (.ref 67) := rfl
theorem fv7_11 {σ : mj_S} : mj_fv 7 11 σ 62 = some (.ref 68) := rfl
theorem fv7_12 {σ : mj_S} : mj_fv 7 12 σ 62 = some (.ref 69) := rfl
theorem fv7_13 {σ : mj_S} : mj_fv 7 13 σ 62 = some (.ref 70) := rfl
theorem fv7_14 {σ : mj_S} : mj_fv 7 14 σ 62 = some (.ref 71) := rfl
theorem fv7_15 {σ : mj_S} : mj_fv 7 15 σ 62 = some (.ref 72) := rfl
theorem fv7_16 {σ : mj_S} : mj_fv 7 16 σ 62 = some (.ref 73) := rfl
theorem fv7_17 {σ : mj_S} : mj_fv 7 17 σ 62 = some (.ref 74) := rfl
theorem fv7_18 {σ : mj_S} : mj_fv 7 18 σ 62 = some (.ref 75) := rfl
theorem fv7_19 {σ : mj_S} : mj_fv 7 19 σ 62 = some (.ref 76) := rfl
theorem fv7_20 {σ : mj_S} : mj_fv 7 20 σ 62 = some (.ref 77) := rfl
theorem fv7_21 {σ : mj_S} : mj_fv 7 21 σ 62 = some (.ref 78) := rfl
theorem fv7_22 {σ : mj_S} : mj_fv 7 22 σ 62 = some (.ref 79) := rfl
theorem fv7_23 {σ : mj_S} : mj_fv 7 23 σ 62 = some (.ref 80) := rfl
theorem fv7_24 {σ : mj_S} : mj_fv 7 24 σ 62 = some (.ref 81) := rfl
theorem fv7_25 {σ : mj_S} : mj_fv 7 25 σ 62 = some (.ref 82) := rfl
theorem fv7_26 {σ : mj_S} : mj_fv 7 26 σ 62 = some (.ref 83) := rfl
theorem fv7_27 {σ : mj_S} : mj_fv 7 27 σ 62 = some (.int (σ 62 27)) := rfl
theorem fw7_27 : mj_fw 7 27 62 = true := rfl
theorem fv7_28 {σ : mj_S} : mj_fv 7 28 σ 62 = some (.int (σ 62 28)) := rfl
theorem fw7_28 : mj_fw 7 28 62 = true := rfl
theorem fv7_29 {σ : mj_S} : mj_fv 7 29 σ 62 = some (.int (σ 62 29)) := rfl
theorem fw7_29 : mj_fw 7 29 62 = true := rfl
theorem fv7_30 {σ : mj_S} : mj_fv 7 30 σ 62 = some (.int (σ 62 30)) := rfl
theorem fw7_30 : mj_fw 7 30 62 = true := rfl
theorem fv7_31 {σ : mj_S} : mj_fv 7 31 σ 62 = some (.int (σ 62 31)) := rfl
theorem fw7_31 : mj_fw 7 31 62 = true := rfl
theorem fv7_32 {σ : mj_S} : mj_fv 7 32 σ 62 = some (.ref 84) := rfl
theorem fv7_33 {σ : mj_S} : mj_fv 7 33 σ 62 = some (.ref 85) := rfl
theorem fv7_34 {σ : mj_S} : mj_fv 7 34 σ 62 = some (.ref 86) := rfl
theorem fv7_35 {σ : mj_S} : mj_fv 7 35 σ 62 = some (.int (σ 62 35)) := rfl
theorem fw7_35 : mj_fw 7 35 62 = true := rfl
theorem fv7_36 {σ : mj_S} : mj_fv 7 36 σ 62 = some (.int (σ 62 36)) := rfl
theorem fw7_36 : mj_fw 7 36 62 = true := rfl
theorem fv7_37 {σ : mj_S} : mj_fv 7 37 σ 62 = some (.int (σ 62 37)) := rfl
theorem fw7_37 : mj_fw 7 37 62 = true := rfl
theorem fv7_38 {σ : mj_S} : mj_fv 7 38 σ 62 = some (.ref 87) := rfl
theorem fv7_39 {σ : mj_S} : mj_fv 7 39 σ 62 = some (.ref 88) := rfl
theorem fv7_40 {σ : mj_S} : mj_fv 7 40 σ 62 = some (.ref 89) := rfl
theorem fv7_41 {σ : mj_S} : mj_fv 7 41 σ 62 = some (.int (σ 62 41)) := rfl
theorem fw7_41 : mj_fw 7 41 62 = true := rfl
theorem fv7_42 {σ : mj_S} : mj_fv 7 42 σ 62 = some (.int (σ 62 42)) := rfl
theorem fw7_42 : mj_fw 7 42 62 = true := rfl
theorem rc7 : mj_rcv 62 7 = true := rfl
theorem fv1_0 {σ : mj_S} {p : Nat} (h1 : 1 ≤ p) (h2 : p ≤ 3) : mj_fv 1 0 σ p = some (.int (σ p 0)) := by
  rcases (show p = 1 ∨ p = 2 ∨ p = 3 by omega) with rfl | rfl | rfl <;> rfl
theorem fw1_0 {p : Nat} (h1 : 1 ≤ p) (h2 : p ≤ 3) : mj_fw 1 0 p = true := by
  rcases (show p = 1 ∨ p = 2 ∨ p = 3 by omega) with rfl | rfl | rfl <;> rfl
theorem fv1_1 {σ : mj_S} {p : Nat} (h1 : 1 ≤ p) (h2 : p ≤ 3) : mj_fv 1 1 σ p = some (.int (σ p 1)) := by
  rcases (show p = 1 ∨ p = 2 ∨ p = 3 by omega) with rfl | rfl | rfl <;> rfl
theorem fw1_1 {p : Nat} (h1 : 1 ≤ p) (h2 : p ≤ 3) : mj_fw 1 1 p = true := by
  rcases (show p = 1 ∨ p = 2 ∨ p = 3 by omega) with rfl | rfl | rfl <;> rfl
theorem fv1_2 {σ : mj_S} {p : Nat} (h1 : 1 ≤ p) (h2 : p ≤ 3) : mj_fv 1 2 σ p = some (.int (σ p 2)) := by
  rcases (show p = 1 ∨ p = 2 ∨ p = 3 by omega) with rfl | rfl | rfl <;> rfl
theorem fw1_2 {p : Nat} (h1 : 1 ≤ p) (h2 : p ≤ 3) : mj_fw 1 2 p = true := by
  rcases (show p = 1 ∨ p = 2 ∨ p = 3 by omega) with rfl | rfl | rfl <;> rfl
theorem fv1_3 {σ : mj_S} {p : Nat} (h1 : 1 ≤ p) (h2 : p ≤ 3) : mj_fv 1 3 σ p = some (.int (σ p 3)) := by
  rcases (show p = 1 ∨ p = 2 ∨ p = 3 by omega) with rfl | rfl | rfl <;> rfl
theorem fw1_3 {p : Nat} (h1 : 1 ≤ p) (h2 : p ≤ 3) : mj_fw 1 3 p = true := by
  rcases (show p = 1 ∨ p = 2 ∨ p = 3 by omega) with rfl | rfl | rfl <;> rfl
theorem fv1_4 {σ : mj_S} {p : Nat} (h1 : 1 ≤ p) (h2 : p ≤ 3) : mj_fv 1 4 σ p = some (.int (σ p 4)) := by
  rcases (show p = 1 ∨ p = 2 ∨ p = 3 by omega) with rfl | rfl | rfl <;> rfl
theorem fw1_4 {p : Nat} (h1 : 1 ≤ p) (h2 : p ≤ 3) : mj_fw 1 4 p = true := by
  rcases (show p = 1 ∨ p = 2 ∨ p = 3 by omega) with rfl | rfl | rfl <;> rfl
theorem fv1_5 {σ : mj_S} {p : Nat} (h1 : 1 ≤ p) (h2 : p ≤ 3) : mj_fv 1 5 σ p = some (.ref (10 * p + 0)) := by
  rcases (show p = 1 ∨ p = 2 ∨ p = 3 by omega) with rfl | rfl | rfl <;> rfl
theorem fv1_6 {σ : mj_S} {p : Nat} (h1 : 1 ≤ p) (h2 : p ≤ 3) : mj_fv 1 6 σ p = some (.ref (10 * p + 1)) := by
  rcases (show p = 1 ∨ p = 2 ∨ p = 3 by omega) with rfl | rfl | rfl <;> rfl
theorem fv1_7 {σ : mj_S} {p : Nat} (h1 : 1 ≤ p) (h2 : p ≤ 3) : mj_fv 1 7 σ p = some (.ref (10 * p + 2)) := by
  rcases (show p = 1 ∨ p = 2 ∨ p = 3 by omega) with rfl | rfl | rfl <;> rfl
theorem fv1_8 {σ : mj_S} {p : Nat} (h1 : 1 ≤ p) (h2 : p ≤ 3) : mj_fv 1 8 σ p = some (.ref (10 * p + 3)) := by
  rcases (show p = 1 ∨ p = 2 ∨ p = 3 by omega) with rfl | rfl | rfl <;> rfl
theorem fv1_9 {σ : mj_S} {p : Nat} (h1 : 1 ≤ p) (h2 : p ≤ 3) : mj_fv 1 9 σ p = some (.ref (10 * p + 4)) := by
  rcases (show p = 1 ∨ p = 2 ∨ p = 3 by omega) with rfl | rfl | rfl <;> rfl
theorem fv1_10 {σ : mj_S} {p : Nat} (h1 : 1 ≤ p) (h2 : p ≤ 3) : mj_fv 1 10 σ p = some (.ref (10 * p + 5)) := by
  rcases (show p = 1 ∨ p = 2 ∨ p = 3 by omega) with rfl | rfl | rfl <;> rfl
theorem fv1_11 {σ : mj_S} {p : Nat} (h1 : 1 ≤ p) (h2 : p ≤ 3) : mj_fv 1 11 σ p = some (.ref (10 * p + 6)) := by
  rcases (show p = 1 ∨ p = 2 ∨ p = 3 by omega) with rfl | rfl | rfl <;> rfl
theorem fv1_12 {σ : mj_S} {p : Nat} (h1 : 1 ≤ p) (h2 : p ≤ 3) : mj_fv 1 12 σ p = some (.ref (10 * p + 7)) := by
  rcases (show p = 1 ∨ p = 2 ∨ p = 3 by omega) with rfl | rfl | rfl <;> rfl
theorem fv1_13 {σ : mj_S} {p : Nat} (h1 : 1 ≤ p) (h2 : p ≤ 3) : mj_fv 1 13 σ p = some (.ref (10 * p + 8)) := by
  rcases (show p = 1 ∨ p = 2 ∨ p = 3 by omega) with rfl | rfl | rfl <;> rfl
theorem fv1_14 {σ : mj_S} {p : Nat} (h1 : 1 ≤ p) (h2 : p ≤ 3) : mj_fv 1 14 σ p = some (.ref (10 * p + 9)) := by
  rcases (show p = 1 ∨ p = 2 ∨ p = 3 by omega) with rfl | rfl | rfl <;> rfl
theorem fv1_15 {σ : mj_S} {p : Nat} (h1 : 1 ≤ p) (h2 : p ≤ 3) : mj_fv 1 15 σ p = some (.ref (p + 3)) := by
  rcases (show p = 1 ∨ p = 2 ∨ p = 3 by omega) with rfl | rfl | rfl <;> rfl
theorem rc1 {p : Nat} (h1 : 1 ≤ p) (h2 : p ≤ 3) : mj_rcv p 1 = true := by
  rcases (show p = 1 ∨ p = 2 ∨ p = 3 by omega) with rfl | rfl | rfl <;> rfl
theorem fv0_0 {σ : mj_S} {k : Nat} (h1 : 4 ≤ k) (h2 : k ≤ 6) : mj_fv 0 0 σ k = some (.int (σ k 0)) := by
  rcases (show k = 4 ∨ k = 5 ∨ k = 6 by omega) with rfl | rfl | rfl <;> rfl
theorem fw0_0 {k : Nat} (h1 : 4 ≤ k) (h2 : k ≤ 6) : mj_fw 0 0 k = true := by
  rcases (show k = 4 ∨ k = 5 ∨ k = 6 by omega) with rfl | rfl | rfl <;> rfl
theorem fv0_1 {σ : mj_S} {k : Nat} (h1 : 4 ≤ k) (h2 : k ≤ 6) : mj_fv 0 1 σ k = some (.int (σ k 1)) := by
  rcases (show k = 4 ∨ k = 5 ∨ k = 6 by omega) with rfl | rfl | rfl <;> rfl
theorem fw0_1 {k : Nat} (h1 : 4 ≤ k) (h2 : k ≤ 6) : mj_fw 0 1 k = true := by
  rcases (show k = 4 ∨ k = 5 ∨ k = 6 by omega) with rfl | rfl | rfl <;> rfl
theorem fv0_2 {σ : mj_S} {k : Nat} (h1 : 4 ≤ k) (h2 : k ≤ 6) : mj_fv 0 2 σ k = some (.int (σ k 2)) := by
  rcases (show k = 4 ∨ k = 5 ∨ k = 6 by omega) with rfl | rfl | rfl <;> rfl
theorem fw0_2 {k : Nat} (h1 : 4 ≤ k) (h2 : k ≤ 6) : mj_fw 0 2 k = true := by
  rcases (show k = 4 ∨ k = 5 ∨ k = 6 by omega) with rfl | rfl | rfl <;> rfl
theorem fv0_3 {σ : mj_S} {k : Nat} (h1 : 4 ≤ k) (h2 : k ≤ 6) : mj_fv 0 3 σ k = some (.int (σ k 3)) := by
  rcases (show k = 4 ∨ k = 5 ∨ k = 6 by omega) with rfl | rfl | rfl <;> rfl
theorem fw0_3 {k : Nat} (h1 : 4 ≤ k) (h2 : k ≤ 6) : mj_fw 0 3 k = true := by
  rcases (show k = 4 ∨ k = 5 ∨ k = 6 by omega) with rfl | rfl | rfl <;> rfl
theorem rc0 {k : Nat} (h1 : 4 ≤ k) (h2 : k ≤ 6) : mj_rcv k 0 = true := by
  rcases (show k = 4 ∨ k = 5 ∨ k = 6 by omega) with rfl | rfl | rfl <;> rfl
theorem fv4_0 {σ : mj_S} {k : Nat} (h1 : 40 ≤ k) (h2 : k ≤ 47) : mj_fv 4 0 σ k = some (.int (σ k 0)) := by
  rcases (show k = 40 ∨ k = 41 ∨ k = 42 ∨ k = 43 ∨ k = 44 ∨ k = 45 ∨ k = 46 ∨ k = 47 by omega) with rfl | rfl | rfl | rfl | rfl | rfl | rfl | rfl <;> rfl
theorem fw4_0 {k : Nat} (h1 : 40 ≤ k) (h2 : k ≤ 47) : mj_fw 4 0 k = true := by
  rcases (show k = 40 ∨ k = 41 ∨ k = 42 ∨ k = 43 ∨ k = 44 ∨ k = 45 ∨ k = 46 ∨ k = 47 by omega) with rfl | rfl | rfl | rfl | rfl | rfl | rfl | rfl <;> rfl
theorem fv4_1 {σ : mj_S} {k : Nat} (h1 : 40 ≤ k) (h2 : k ≤ 47) : mj_fv 4 1 σ k = some (.int (σ k 1)) := by
  rcases (show k = 40 ∨ k = 41 ∨ k = 42 ∨ k = 43 ∨ k = 44 ∨ k = 45 ∨ k = 46 ∨ k = 47 by omega) with rfl | rfl | rfl | rfl | rfl | rfl | rfl | rfl <;> rfl
theorem fw4_1 {k : Nat} (h1 : 40 ≤ k) (h2 : k ≤ 47) : mj_fw 4 1 k = true := by
  rcases (show k = 40 ∨ k = 41 ∨ k = 42 ∨ k = 43 ∨ k = 44 ∨ k = 45 ∨ k = 46 ∨ k = 47 by omega) with rfl | rfl | rfl | rfl | rfl | rfl | rfl | rfl <;> rfl
theorem fv4_2 {σ : mj_S} {k : Nat} (h1 : 40 ≤ k) (h2 : k ≤ 47) : mj_fv 4 2 σ k = some (.int (σ k 2)) := by
  rcases (show k = 40 ∨ k = 41 ∨ k = 42 ∨ k = 43 ∨ k = 44 ∨ k = 45 ∨ k = 46 ∨ k = 47 by omega) with rfl | rfl | rfl | rfl | rfl | rfl | rfl | rfl <;> rfl
theorem fw4_2 {k : Nat} (h1 : 40 ≤ k) (h2 : k ≤ 47) : mj_fw 4 2 k = true := by
  rcases (show k = 40 ∨ k = 41 ∨ k = 42 ∨ k = 43 ∨ k = 44 ∨ k = 45 ∨ k = 46 ∨ k = 47 by omega) with rfl | rfl | rfl | rfl | rfl | rfl | rfl | rfl <;> rfl
theorem fv4_3 {σ : mj_S} {k : Nat} (h1 : 40 ≤ k) (h2 : k ≤ 47) : mj_fv 4 3 σ k = some (.ref (k + 8)) := by
  rcases (show k = 40 ∨ k = 41 ∨ k = 42 ∨ k = 43 ∨ k = 44 ∨ k = 45 ∨ k = 46 ∨ k = 47 by omega) with rfl | rfl | rfl | rfl | rfl | rfl | rfl | rfl <;> rfl
theorem rc4 {k : Nat} (h1 : 40 ≤ k) (h2 : k ≤ 47) : mj_rcv k 4 = true := by
  rcases (show k = 40 ∨ k = 41 ∨ k = 42 ∨ k = 43 ∨ k = 44 ∨ k = 45 ∨ k = 46 ∨ k = 47 by omega) with rfl | rfl | rfl | rfl | rfl | rfl | rfl | rfl <;> rfl
theorem fs0_0 {σ : mj_S} : mj_fv 20 0 σ 93 = some (.ref 100) := rfl
theorem fs1_0 {σ : mj_S} : mj_fv 20 1 σ 93 = some (.int 0) := rfl
theorem rcs_0 : mj_rcv 93 20 = true := rfl
theorem fs0_1 {σ : mj_S} : mj_fv 20 0 σ 94 = some (.ref 101) := rfl
theorem fs1_1 {σ : mj_S} : mj_fv 20 1 σ 94 = some (.int 0) := rfl
theorem rcs_1 : mj_rcv 94 20 = true := rfl
theorem fs0_2 {σ : mj_S} : mj_fv 20 0 σ 95 = some (.ref 102) := rfl
theorem fs1_2 {σ : mj_S} : mj_fv 20 1 σ 95 = some (.int 0) := rfl
theorem rcs_2 : mj_rcv 95 20 = true := rfl
theorem fs0_3 {σ : mj_S} : mj_fv 20 0 σ 96 = some (.ref 103) := rfl
theorem fs1_3 {σ : mj_S} : mj_fv 20 1 σ 96 = some (.int 0) := rfl
theorem rcs_3 : mj_rcv 96 20 = true := rfl
theorem fs0_4 {σ : mj_S} : mj_fv 20 0 σ 97 = some (.ref 104) := rfl
theorem fs1_4 {σ : mj_S} : mj_fv 20 1 σ 97 = some (.int 0) := rfl
theorem rcs_4 : mj_rcv 97 20 = true := rfl
theorem li_p0 {σ : mj_S} {p : Nat} (h1 : 1 ≤ p) (h2 : p ≤ 3) : mj_li σ (10 * p + 0) = some 8 := by
  rcases (show p = 1 ∨ p = 2 ∨ p = 3 by omega) with rfl | rfl | rfl <;> rfl
theorem lw_q0 {p : Nat} (h1 : 1 ≤ p) (h2 : p ≤ 3) : mj_lw (10 * p + 0) = some 8 := by
  rcases (show p = 1 ∨ p = 2 ∨ p = 3 by omega) with rfl | rfl | rfl <;> rfl
theorem li_p1 {σ : mj_S} {p : Nat} (h1 : 1 ≤ p) (h2 : p ≤ 3) : mj_li σ (10 * p + 1) = some 8 := by
  rcases (show p = 1 ∨ p = 2 ∨ p = 3 by omega) with rfl | rfl | rfl <;> rfl
theorem lw_q1 {p : Nat} (h1 : 1 ≤ p) (h2 : p ≤ 3) : mj_lw (10 * p + 1) = some 8 := by
  rcases (show p = 1 ∨ p = 2 ∨ p = 3 by omega) with rfl | rfl | rfl <;> rfl
theorem li_p2 {σ : mj_S} {p : Nat} (h1 : 1 ≤ p) (h2 : p ≤ 3) : mj_li σ (10 * p + 2) = some 8 := by
  rcases (show p = 1 ∨ p = 2 ∨ p = 3 by omega) with rfl | rfl | rfl <;> rfl
theorem lw_q2 {p : Nat} (h1 : 1 ≤ p) (h2 : p ≤ 3) : mj_lw (10 * p + 2) = some 8 := by
  rcases (show p = 1 ∨ p = 2 ∨ p = 3 by omega) with rfl | rfl | rfl <;> rfl
theorem li_p3 {σ : mj_S} {p : Nat} (h1 : 1 ≤ p) (h2 : p ≤ 3) : mj_li σ (10 * p + 3) = some 8 := by
  rcases (show p = 1 ∨ p = 2 ∨ p = 3 by omega) with rfl | rfl | rfl <;> rfl
theorem lw_q3 {p : Nat} (h1 : 1 ≤ p) (h2 : p ≤ 3) : mj_lw (10 * p + 3) = some 8 := by
  rcases (show p = 1 ∨ p = 2 ∨ p = 3 by omega) with rfl | rfl | rfl <;> rfl
theorem li_p4 {σ : mj_S} {p : Nat} (h1 : 1 ≤ p) (h2 : p ≤ 3) : mj_li σ (10 * p + 4) = some 8 := by
  rcases (show p = 1 ∨ p = 2 ∨ p = 3 by omega) with rfl | rfl | rfl <;> rfl
theorem lw_q4 {p : Nat} (h1 : 1 ≤ p) (h2 : p ≤ 3) : mj_lw (10 * p + 4) = some 8 := by
  rcases (show p = 1 ∨ p = 2 ∨ p = 3 by omega) with rfl | rfl | rfl <;> rfl
theorem li_p5 {σ : mj_S} {p : Nat} (h1 : 1 ≤ p) (h2 : p ≤ 3) : mj_li σ (10 * p + 5) = some 6 := by
  rcases (show p = 1 ∨ p = 2 ∨ p = 3 by omega) with rfl | rfl | rfl <;> rfl
theorem lw_q5 {p : Nat} (h1 : 1 ≤ p) (h2 : p ≤ 3) : mj_lw (10 * p + 5) = some 6 := by
  rcases (show p = 1 ∨ p = 2 ∨ p = 3 by omega) with rfl | rfl | rfl <;> rfl
theorem li_p6 {σ : mj_S} {p : Nat} (h1 : 1 ≤ p) (h2 : p ≤ 3) : mj_li σ (10 * p + 6) = some 6 := by
  rcases (show p = 1 ∨ p = 2 ∨ p = 3 by omega) with rfl | rfl | rfl <;> rfl
theorem lw_q6 {p : Nat} (h1 : 1 ≤ p) (h2 : p ≤ 3) : mj_lw (10 * p + 6) = some 6 := by
  rcases (show p = 1 ∨ p = 2 ∨ p = 3 by omega) with rfl | rfl | rfl <;> rfl
theorem li_p7 {σ : mj_S} {p : Nat} (h1 : 1 ≤ p) (h2 : p ≤ 3) : mj_li σ (10 * p + 7) = some 6 := by
  rcases (show p = 1 ∨ p = 2 ∨ p = 3 by omega) with rfl | rfl | rfl <;> rfl
theorem lw_q7 {p : Nat} (h1 : 1 ≤ p) (h2 : p ≤ 3) : mj_lw (10 * p + 7) = some 6 := by
  rcases (show p = 1 ∨ p = 2 ∨ p = 3 by omega) with rfl | rfl | rfl <;> rfl
theorem li_p8 {σ : mj_S} {p : Nat} (h1 : 1 ≤ p) (h2 : p ≤ 3) : mj_li σ (10 * p + 8) = some 6 := by
  rcases (show p = 1 ∨ p = 2 ∨ p = 3 by omega) with rfl | rfl | rfl <;> rfl
theorem lw_q8 {p : Nat} (h1 : 1 ≤ p) (h2 : p ≤ 3) : mj_lw (10 * p + 8) = some 6 := by
  rcases (show p = 1 ∨ p = 2 ∨ p = 3 by omega) with rfl | rfl | rfl <;> rfl
theorem li_p9 {σ : mj_S} {p : Nat} (h1 : 1 ≤ p) (h2 : p ≤ 3) : mj_li σ (10 * p + 9) = some 48 := by
  rcases (show p = 1 ∨ p = 2 ∨ p = 3 by omega) with rfl | rfl | rfl <;> rfl
theorem lw_q9 {p : Nat} (h1 : 1 ≤ p) (h2 : p ≤ 3) : mj_lw (10 * p + 9) = some 48 := by
  rcases (show p = 1 ∨ p = 2 ∨ p = 3 by omega) with rfl | rfl | rfl <;> rfl
theorem li_10 {σ : mj_S} : mj_li σ 10 = some 8 := rfl
theorem lw_10 : mj_lw 10 = some 8 := rfl
theorem li_11 {σ : mj_S} : mj_li σ 11 = some 8 := rfl
theorem lw_11 : mj_lw 11 = some 8 := rfl
theorem li_12 {σ : mj_S} : mj_li σ 12 = some 8 := rfl
theorem lw_12 : mj_lw 12 = some 8 := rfl
theorem li_13 {σ : mj_S} : mj_li σ 13 = some 8 := rfl
theorem lw_13 : mj_lw 13 = some 8 := rfl
theorem li_14 {σ : mj_S} : mj_li σ 14 = some 8 := rfl
theorem lw_14 : mj_lw 14 = some 8 := rfl
theorem li_15 {σ : mj_S} : mj_li σ 15 = some 6 := rfl
theorem lw_15 : mj_lw 15 = some 6 := rfl
theorem li_16 {σ : mj_S} : mj_li σ 16 = some 6 := rfl
theorem lw_16 : mj_lw 16 = some 6 := rfl
theorem li_17 {σ : mj_S} : mj_li σ 17 = some 6 := rfl
theorem lw_17 : mj_lw 17 = some 6 := rfl
theorem li_18 {σ : mj_S} : mj_li σ 18 = some 6 := rfl
theorem lw_18 : mj_lw 18 = some 6 := rfl
theorem li_19 {σ : mj_S} : mj_li σ 19 = some 48 := rfl
theorem lw_19 : mj_lw 19 = some 48 := rfl
theorem li_20 {σ : mj_S} : mj_li σ 20 = some 8 := rfl
theorem lw_20 : mj_lw 20 = some 8 := rfl
theorem li_21 {σ : mj_S} : mj_li σ 21 = some 8 := rfl
theorem lw_21 : mj_lw 21 = some 8 := rfl
theorem li_22 {σ : mj_S} : mj_li σ 22 = some 8 := rfl
theorem lw_22 : mj_lw 22 = some 8 := rfl
theorem li_23 {σ : mj_S} : mj_li σ 23 = some 8 := rfl
theorem lw_23 : mj_lw 23 = some 8 := rfl
theorem li_24 {σ : mj_S} : mj_li σ 24 = some 8 := rfl
theorem lw_24 : mj_lw 24 = some 8 := rfl
theorem li_25 {σ : mj_S} : mj_li σ 25 = some 6 := rfl
theorem lw_25 : mj_lw 25 = some 6 := rfl
theorem li_26 {σ : mj_S} : mj_li σ 26 = some 6 := rfl
theorem lw_26 : mj_lw 26 = some 6 := rfl
theorem li_27 {σ : mj_S} : mj_li σ 27 = some 6 := rfl
theorem lw_27 : mj_lw 27 = some 6 := rfl
theorem li_28 {σ : mj_S} : mj_li σ 28 = some 6 := rfl
theorem lw_28 : mj_lw 28 = some 6 := rfl
theorem li_29 {σ : mj_S} : mj_li σ 29 = some 48 := rfl
theorem lw_29 : mj_lw 29 = some 48 := rfl
theorem li_30 {σ : mj_S} : mj_li σ 30 = some 8 := rfl
theorem lw_30 : mj_lw 30 = some 8 := rfl
theorem li_31 {σ : mj_S} : mj_li σ 31 = some 8 := rfl
theorem lw_31 : mj_lw 31 = some 8 := rfl
theorem li_32 {σ : mj_S} : mj_li σ 32 = some 8 := rfl
theorem lw_32 : mj_lw 32 = some 8 := rfl
theorem li_33 {σ : mj_S} : mj_li σ 33 = some 8 := rfl
theorem lw_33 : mj_lw 33 = some 8 := rfl
theorem li_34 {σ : mj_S} : mj_li σ 34 = some 8 := rfl
theorem lw_34 : mj_lw 34 = some 8 := rfl
theorem li_35 {σ : mj_S} : mj_li σ 35 = some 6 := rfl
theorem lw_35 : mj_lw 35 = some 6 := rfl
theorem li_36 {σ : mj_S} : mj_li σ 36 = some 6 := rfl
theorem lw_36 : mj_lw 36 = some 6 := rfl
theorem li_37 {σ : mj_S} : mj_li σ 37 = some 6 := rfl
theorem lw_37 : mj_lw 37 = some 6 := rfl
theorem li_38 {σ : mj_S} : mj_li σ 38 = some 6 := rfl
theorem lw_38 : mj_lw 38 = some 6 := rfl
theorem li_39 {σ : mj_S} : mj_li σ 39 = some 48 := rfl
theorem lw_39 : mj_lw 39 = some 48 := rfl
theorem li_56 {σ : mj_S} : mj_li σ 56 = some 6 := rfl
theorem lw_56 : mj_lw 56 = some 6 := rfl
theorem li_57 {σ : mj_S} : mj_li σ 57 = some 6 := rfl
theorem lw_57 : mj_lw 57 = some 6 := rfl
theorem li_58 {σ : mj_S} : mj_li σ 58 = some 5 := rfl
theorem lw_58 : mj_lw 58 = some 5 := rfl
theorem li_60 {σ : mj_S} : mj_li σ 60 = some 20 := rfl
theorem lw_60 : mj_lw 60 = some 20 := rfl
theorem li_61 {σ : mj_S} : mj_li σ 61 = some 8 := rfl
theorem lw_61 : mj_lw 61 = some 8 := rfl
theorem li_63 {σ : mj_S} : mj_li σ 63 = some 8 := rfl
theorem lw_63 : mj_lw 63 = some 8 := rfl
theorem li_64 {σ : mj_S} : mj_li σ 64 = some 8 := rfl
theorem lw_64 : mj_lw 64 = some 8 := rfl
theorem li_65 {σ : mj_S} : mj_li σ 65 = some 8 := rfl
theorem lw_65 : mj_lw 65 = some 8 := rfl
theorem li_66 {σ : mj_S} : mj_li σ 66 = some 8 := rfl
theorem lw_66 : mj_lw 66 = some 8 := rfl
theorem li_67 {σ : mj_S} : mj_li σ 67 = some 8 := rfl
theorem lw_67 : mj_lw 67 = some 8 := rfl
theorem li_68 {σ : mj_S} : mj_li σ 68 = some 8 := rfl
theorem lw_68 : mj_lw 68 = some 8 := rfl
theorem li_69 {σ : mj_S} : mj_li σ 69 = some 6 := rfl
theorem lw_69 : mj_lw 69 = some 6 := rfl
theorem li_70 {σ : mj_S} : mj_li σ 70 = some 6 := rfl
theorem lw_70 : mj_lw 70 = some 6 := rfl
theorem li_71 {σ : mj_S} : mj_li σ 71 = some 6 := rfl
theorem lw_71 : mj_lw 71 = some 6 := rfl
theorem li_72 {σ : mj_S} : mj_li σ 72 = some 6 := rfl
theorem lw_72 : mj_lw 72 = some 6 := rfl
theorem li_73 {σ : mj_S} : mj_li σ 73 = some 48 := rfl
theorem lw_73 : mj_lw 73 = some 48 := rfl
theorem li_74 {σ : mj_S} : mj_li σ 74 = some 8 := rfl
theorem lw_74 : mj_lw 74 = some 8 := rfl
theorem li_75 {σ : mj_S} : mj_li σ 75 = some 8 := rfl
theorem lw_75 : mj_lw 75 = some 8 := rfl
theorem li_76 {σ : mj_S} : mj_li σ 76 = some 8 := rfl
theorem lw_76 : mj_lw 76 = some 8 := rfl
theorem li_77 {σ : mj_S} : mj_li σ 77 = some 8 := rfl
theorem lw_77 : mj_lw 77 = some 8 := rfl
theorem ll_78 : mj_ll 78 = some 1280 := rfl
theorem ll_79 : mj_ll 79 = some 160 := rfl
theorem li_80 {σ : mj_S} : mj_li σ 80 = some 32 := rfl
theorem lw_80 : mj_lw 80 = some 32 := rfl
theorem li_81 {σ : mj_S} : mj_li σ 81 = some 5 := rfl
theorem lw_81 : mj_lw 81 = some 5 := rfl
theorem li_82 {σ : mj_S} : mj_li σ 82 = some 4 := rfl
theorem lw_82 : mj_lw 82 = some 4 := rfl
theorem li_83 {σ : mj_S} : mj_li σ 83 = some 5 := rfl
theorem lw_83 : mj_lw 83 = some 5 := rfl
theorem li_84 {σ : mj_S} : mj_li σ 84 = some 130 := rfl
theorem lw_84 : mj_lw 84 = some 130 := rfl
theorem li_85 {σ : mj_S} : mj_li σ 85 = some 130 := rfl
theorem lw_85 : mj_lw 85 = some 130 := rfl
theorem li_86 {σ : mj_S} : mj_li σ 86 = some 130 := rfl
theorem lw_86 : mj_lw 86 = some 130 := rfl
theorem li_87 {σ : mj_S} : mj_li σ 87 = some 6 := rfl
theorem lw_87 : mj_lw 87 = some 6 := rfl
theorem li_88 {σ : mj_S} : mj_li σ 88 = some 6 := rfl
theorem lw_88 : mj_lw 88 = some 6 := rfl
theorem li_89 {σ : mj_S} : mj_li σ 89 = some 20 := rfl
theorem lw_89 : mj_lw 89 = some 20 := rfl
theorem li_90 {σ : mj_S} : mj_li σ 90 = some 7 := rfl
theorem li_91 {σ : mj_S} : mj_li σ 91 = some 21 := rfl
theorem li_92 {σ : mj_S} : mj_li σ 92 = some 5 := rfl
theorem ll_s {k : Nat} (h1 : 48 ≤ k) (h2 : k ≤ 55) : mj_ll k = some 160 := by
  rcases (show k = 48 ∨ k = 49 ∨ k = 50 ∨ k = 51 ∨ k = 52 ∨ k = 53 ∨ k = 54 ∨ k = 55 by omega) with rfl | rfl | rfl | rfl | rfl | rfl | rfl | rfl <;> rfl
theorem mj_nIeq0 {n : Nat} (h : n < 2 ^ 31) : (nI n = 0) = (n = 0) := by
  rw [← nI_0]; exact propext (nI_eq h (by decide))
theorem mj_nIlt0 {n : Nat} (h : n < 2 ^ 31) : (nI n < 0) = False := eq_false (nI_pos h)
theorem mj_nIle0 {n : Nat} (h : n < 2 ^ 31) : (0 ≤ nI n) = True := eq_true (nI_pos' h)
theorem mj_nIeq {a b : Nat} (ha : a < 2 ^ 31) (hb : b < 2 ^ 31) : (nI a = nI b) = (a = b) := propext (nI_eq ha hb)
theorem mj_nIle {a b : Nat} (ha : a < 2 ^ 31) (hb : b < 2 ^ 31) : (nI a ≤ nI b) = (a ≤ b) := propext (nI_leI ha hb)
theorem mj_nIlt {a b : Nat} (ha : a < 2 ^ 31) (hb : b < 2 ^ 31) : (nI a < nI b) = (a < b) := propext (nI_ltI ha hb)
theorem mj_ok0 : mj_ok (some .boolean) (nI 0) = true := rfl
theorem mj_ok1 : mj_ok (some .boolean) (nI 1) = true := rfl
noncomputable def mj_b (c : Prop) : Int32 := by classical exact if c then nI 1 else nI 0
theorem mj_bt1 {c : Prop} (h : c) : mj_b c = nI 1 := by unfold mj_b; exact if_pos h
theorem mj_bt0 {c : Prop} (h : ¬ c) : mj_b c = nI 0 := by unfold mj_b; exact if_neg h
theorem mj_okb {c : Prop} : mj_ok (some .boolean) (mj_b c) = true := by
  by_cases h : c
  · rw [mj_bt1 h]; rfl
  · rw [mj_bt0 h]; rfl
theorem mj_b0 {c : Prop} : (mj_b c = 0) = ¬ c := by
  by_cases h : c
  · rw [mj_bt1 h]; exact propext ⟨fun q => absurd q (by decide), fun q => absurd h q⟩
  · rw [mj_bt0 h]; exact propext ⟨fun _ => h, fun _ => rfl⟩
theorem mj_bR {q : Prop} [Decidable q] {σ : mj_S} {τ : mj_T} : (if q then (some (some (.int (nI 1)), σ, τ) : mj_R) else some (some (.int (nI 0)), σ, τ)) = some (some (.int (mj_b q)), σ, τ) := by
  by_cases h : q
  · rw [if_pos h, mj_bt1 h]
  · rw [if_neg h, mj_bt0 h]
theorem mj_bR2 {q : Prop} [Decidable q] {σ : mj_S} {τ : mj_T} : (if q then (some (some (.int (nI 0)), σ, τ) : mj_R) else some (some (.int (nI 1)), σ, τ)) = some (some (.int (mj_b (¬ q))), σ, τ) := by
  by_cases h : q
  · rw [if_pos h, mj_bt0 (fun z => z h)]
  · rw [if_neg h, mj_bt1 h]
theorem mj_ls {α : Type} {v : α} {l : List α} : (some v).toList ++ l = v :: l := rfl
theorem mj_ln {α : Type} {l : List α} : (none : Option α).toList ++ l = l := rfl
/-- a parish as it is seen at the arrays B .. B + 9 and the object O -/
def mj_pv (B O : Nat) (σ : mj_S) (j i : Nat) : Int32 := if j < 10 then σ (B + j) i else if i < 5 then σ O i else 0

theorem pv_0 {B O : Nat} {σ : mj_S} {i : Nat} : mj_pv B O σ 0 i = σ (B + 0) i := rfl
theorem pv_1 {B O : Nat} {σ : mj_S} {i : Nat} : mj_pv B O σ 1 i = σ (B + 1) i := rfl
theorem pv_2 {B O : Nat} {σ : mj_S} {i : Nat} : mj_pv B O σ 2 i = σ (B + 2) i := rfl
theorem pv_3 {B O : Nat} {σ : mj_S} {i : Nat} : mj_pv B O σ 3 i = σ (B + 3) i := rfl
theorem pv_4 {B O : Nat} {σ : mj_S} {i : Nat} : mj_pv B O σ 4 i = σ (B + 4) i := rfl
theorem pv_5 {B O : Nat} {σ : mj_S} {i : Nat} : mj_pv B O σ 5 i = σ (B + 5) i := rfl
theorem pv_6 {B O : Nat} {σ : mj_S} {i : Nat} : mj_pv B O σ 6 i = σ (B + 6) i := rfl
theorem pv_7 {B O : Nat} {σ : mj_S} {i : Nat} : mj_pv B O σ 7 i = σ (B + 7) i := rfl
theorem pv_8 {B O : Nat} {σ : mj_S} {i : Nat} : mj_pv B O σ 8 i = σ (B + 8) i := rfl
theorem pv_9 {B O : Nat} {σ : mj_S} {i : Nat} : mj_pv B O σ 9 i = σ (B + 9) i := rfl
theorem pc_0 {B O : Nat} {σ : mj_S} : mj_pv B O σ 10 0 = σ O 0 := rfl
theorem pc_1 {B O : Nat} {σ : mj_S} : mj_pv B O σ 10 1 = σ O 1 := rfl
theorem pc_2 {B O : Nat} {σ : mj_S} : mj_pv B O σ 10 2 = σ O 2 := rfl
theorem pc_3 {B O : Nat} {σ : mj_S} : mj_pv B O σ 10 3 = σ O 3 := rfl
theorem pc_4 {B O : Nat} {σ : mj_S} : mj_pv B O σ 10 4 = σ O 4 := rfl
