/-! the digest -/
def mx (h v : Int64) : Int64 := 31 * h + v
def b64 (b : Bool) : Int64 := if b then 1 else 0
def d_err (σ : MS) : Nat → Nat → Int64 → Int64
  | 0, _, h => h
  | f + 1, k, h => d_err σ f (k + 1) (mx h (σ 15 k).toInt64)
def d_itm (tg pm : Nat → Int32) (gd : Nat → Bool) : Nat → Nat → Int64 → Int64
  | 0, _, h => h
  | f + 1, k, h => d_itm tg pm gd f (k + 1) (mx (mx (mx h (tg k).toInt64) (pm k).toInt64) (b64 (gd k)))
def d_cel (σ : MS) (c : Nat) (h : Int64) : Int64 := d_itm (fun k => σ 5 (12 * c + k)) (fun k => σ 6 (12 * c + k)) (fun k => decide (0 < σ 7 (12 * c + k))) (zN (σ 4 c)) 0 (mx (mx h (σ 3 c).toInt64) (σ 4 c).toInt64)
def d_cls (σ : MS) (a : Nat) : Nat → Nat → Int64 → Int64
  | 0, _, h => h
  | f + 1, i, h => d_cls σ a f (i + 1) (d_cel σ (8 * a + i) h)
def d_al1 (σ : MS) (a : Nat) (h : Int64) : Int64 := d_cls σ a (zN (σ 1 a)) 0 (mx (mx h (σ 1 a).toInt64) (b64 (decide (¬ σ 2 a = 0))))
def d_als (σ : MS) : Nat → Nat → Int64 → Int64
  | 0, _, h => h
  | f + 1, a, h => d_als σ f (a + 1) (d_al1 σ a h)
def d_pts (σ : MS) : Nat → Nat → Int64 → Int64
  | 0, _, h => h
  | f + 1, p, h => d_pts σ f (p + 1) (mx (mx (mx h (σ 9 p).toInt64) (σ 10 p).toInt64) (nI (lvO σ p)).toInt64)
def d_hd (σ : MS) : Int64 := mx (mx (mx (mx (mx (mx (d_err σ 3 0 12011) (σ 18 0).toInt64) (σ 12 0).toInt64) (σ 13 0).toInt64) (σ 14 0).toInt64) (σ 11 0).toInt64) (σ 0 0).toInt64
def s_dig (σ : MS) : Int64 := d_pts σ (zN (σ 8 0)) 0 (mx (d_als σ (zN (σ 0 0)) 0 (d_hd σ)) (σ 8 0).toInt64)
