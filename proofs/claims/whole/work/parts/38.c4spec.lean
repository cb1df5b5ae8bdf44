/-! A common divisor in less than a hundred steps. -/
theorem cd_half {x y : Int} (hy : 0 < y) (hx : y < x) : 2 * (y * (x % y)) ≤ x * y := by
  have hm := emd (d := x) (n := y) hy
  have h1 : x % y + y ≤ x := by
    have e := Int.emod_add_mul_ediv x y
    have hq : 1 ≤ x / y := Int.le_ediv_of_mul_le hy (by omega)
    have : y * 1 ≤ y * (x / y) := Int.mul_le_mul_of_nonneg_left hq (by omega)
    omega
  have h2 : (2 * (x % y)) * y ≤ x * y := Int.mul_le_mul_of_nonneg_right (by omega) (by omega)
  have h3 : 2 * (y * (x % y)) = (2 * (x % y)) * y := by rw [Int.mul_comm y, Int.mul_assoc]
  omega
theorem cd_step {x y n K : Int} (hn : 0 ≤ n) (hy : 0 < y) (hx : y < x) (h : x * y * pw n < K) : y * (x % y) * pw (n + 1) < K := by
  have h1 := cd_half hy hx
  have h2 : 2 * (y * (x % y)) * pw n ≤ x * y * pw n := Int.mul_le_mul_of_nonneg_right h1 (by have := pw_pos n; omega)
  have h3 : y * (x % y) * pw (n + 1) = 2 * (y * (x % y)) * pw n := by rw [pw_s hn, ← Int.mul_assoc, Int.mul_comm (y * (x % y)) 2]
  omega
theorem cd_end {x y : Int} (hy : 0 < y) (hx : y < x) (h : x * y * pw 100 < 1208925819614629174706176) : False := by
  have h1 : 1 * 1 ≤ x * y := Int.mul_le_mul (by omega) (by omega) (by omega) (by omega)
  have h2 : 1 * pw 100 ≤ x * y * pw 100 := Int.mul_le_mul_of_nonneg_right (by omega) (by decide +kernel)
  have h3 : pw 100 = 1267650600228229401496703205376 := by decide +kernel
  omega
theorem cd_start {a b : Int} (ha : 0 ≤ a) (ha2 : a < 500000000000) (hb : 0 < b) (hb2 : b < 500000000000) : b * (a % b) * pw 1 < 1208925819614629174706176 := by
  have hm := emd (d := a) (n := b) hb
  have h1 : b * (a % b) ≤ 500000000000 * 500000000000 := Int.mul_le_mul (by omega) (by omega) (by omega) (by omega)
  have h3 : pw 1 = 2 := by decide +kernel
  rw [h3]; omega
