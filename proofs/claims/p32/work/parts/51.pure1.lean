/-! ===== pure 1 ===== -/
def zp (a b : Nat → Int) : Nat → Int
  | 0 => a 0 * b 0 - a 1 * b 1 - a 2 * b 2 - a 3 * b 3 - a 4 * b 4 - a 5 * b 5 - a 6 * b 6 - a 7 * b 7
  | 1 => a 0 * b 1 + a 1 * b 0 + (a 2 * b 4 - a 4 * b 2) + (a 5 * b 6 - a 6 * b 5) + (a 3 * b 7 - a 7 * b 3)
  | 2 => a 0 * b 2 + a 2 * b 0 + (a 4 * b 1 - a 1 * b 4) + (a 3 * b 5 - a 5 * b 3) + (a 6 * b 7 - a 7 * b 6)
  | 3 => a 0 * b 3 + a 3 * b 0 + (a 5 * b 2 - a 2 * b 5) + (a 4 * b 6 - a 6 * b 4) + (a 7 * b 1 - a 1 * b 7)
  | 4 => a 0 * b 4 + a 4 * b 0 + (a 1 * b 2 - a 2 * b 1) + (a 6 * b 3 - a 3 * b 6) + (a 5 * b 7 - a 7 * b 5)
  | 5 => a 0 * b 5 + a 5 * b 0 + (a 2 * b 3 - a 3 * b 2) + (a 7 * b 4 - a 4 * b 7) + (a 6 * b 1 - a 1 * b 6)
  | 6 => a 0 * b 6 + a 6 * b 0 + (a 3 * b 4 - a 4 * b 3) + (a 1 * b 5 - a 5 * b 1) + (a 7 * b 2 - a 2 * b 7)
  | 7 => a 0 * b 7 + a 7 * b 0 + (a 4 * b 5 - a 5 * b 4) + (a 2 * b 6 - a 6 * b 2) + (a 1 * b 3 - a 3 * b 1)
  | _ => 0
def zn (a : Nat → Int) : Int := a 0 * a 0 + a 1 * a 1 + a 2 * a 2 + a 3 * a 3 + a 4 * a 4 + a 5 * a 5 + a 6 * a 6 + a 7 * a 7
def zc (a : Nat → Int) : Nat → Int := fun k => if k = 0 then a k else -a k
theorem zn_mul (a b : Nat → Int) : zn (zp a b) = zn a * zn b := by
  unfold zn zp
  grind
theorem zp_cb (q b : Nat → Int) : ∀ k, k < 8 → zp (zp q b) (zc b) k = q k * zn b
  | 0, _ => by simp only [zp, zc, zn]; grind
  | 1, _ => by simp only [zp, zc, zn]; grind
  | 2, _ => by simp only [zp, zc, zn]; grind
  | 3, _ => by simp only [zp, zc, zn]; grind
  | 4, _ => by simp only [zp, zc, zn]; grind
  | 5, _ => by simp only [zp, zc, zn]; grind
  | 6, _ => by simp only [zp, zc, zn]; grind
  | 7, _ => by simp only [zp, zc, zn]; grind
  | k + 8, h => absurd h (by omega)

