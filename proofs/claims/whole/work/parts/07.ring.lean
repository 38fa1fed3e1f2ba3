/-! Identities of a commutative ring of characteristic 10009. -/
theorem rg_sq {α : Type} [Lean.Grind.CommRing α] [Lean.Grind.IsCharP α 10009] {x y u w e : α} (h1 : y * y - x * x = 1 + 56 * (x * x) * (y * y)) (h2 : w * w - u * u = 1 + 56 * (u * u) * (w * w)) (he : e = 56 * (x * u) * (y * w)) (h3 : e * e = 1) :
    (3303 * x + e * y) * (3303 * x + e * y) = 56 * ((x * y * (3303 * u + w)) * (x * y * (3303 * u + w))) := by
  have key : (3303 * x + e * y) * (3303 * x + e * y) - 56 * ((x * y * (3303 * u + w)) * (x * y * (3303 * u + w))) = (y * y - x * x - (1 + 56 * (x * x) * (y * y))) + (e * e - 1) * (y * y - 1) - 56 * (x * x) * (y * y) * (w * w - u * u - (1 + 56 * (u * u) * (w * w))) + (e - 56 * (x * u) * (y * w)) * (e + 56 * (x * u) * (y * w) + 2 * 3303 * x * y) := by
    clear h1 h2 he h3
    grind
  rw [h1, h2, h3, ← he] at key
  grind
theorem rg_sq' {α : Type} [Lean.Grind.CommRing α] [Lean.Grind.IsCharP α 10009] {x y u w e : α} (h1 : y * y - x * x = 1 + 56 * (x * x) * (y * y)) (h2 : w * w - u * u = 1 + 56 * (u * u) * (w * w)) (he : e = 56 * (x * u) * (y * w)) (h3 : e * e = 1) :
    (3303 * x - e * y) * (3303 * x - e * y) = 56 * ((x * y * (3303 * u - w)) * (x * y * (3303 * u - w))) := by
  have key : (3303 * x - e * y) * (3303 * x - e * y) - 56 * ((x * y * (3303 * u - w)) * (x * y * (3303 * u - w))) = (y * y - x * x - (1 + 56 * (x * x) * (y * y))) + (e * e - 1) * (y * y - 1) - 56 * (x * x) * (y * y) * (w * w - u * u - (1 + 56 * (u * u) * (w * w))) + (e - 56 * (x * u) * (y * w)) * (e + 56 * (x * u) * (y * w) - 2 * 3303 * x * y) := by
    clear h1 h2 he h3
    grind
  rw [h1, h2, h3, ← he] at key
  grind
theorem rg_on {α : Type} [Lean.Grind.CommRing α] [Lean.Grind.IsCharP α 10009] {x y u w : α} (h1 : y * y - x * x = 1 + 56 * (x * x) * (y * y)) (h2 : w * w - u * u = 1 + 56 * (u * u) * (w * w)) :
    (y * w + x * u) * (y * w + x * u) * ((1 + 56 * (x * u) * (y * w)) * (1 + 56 * (x * u) * (y * w))) - (x * w + y * u) * (x * w + y * u) * ((1 - 56 * (x * u) * (y * w)) * (1 - 56 * (x * u) * (y * w)))
      = (1 + 56 * (x * u) * (y * w)) * (1 + 56 * (x * u) * (y * w)) * ((1 - 56 * (x * u) * (y * w)) * (1 - 56 * (x * u) * (y * w))) + 56 * ((x * w + y * u) * (x * w + y * u)) * ((y * w + x * u) * (y * w + x * u)) := by
  grind
theorem rg_frac {α : Type} [Lean.Grind.CommRing α] [Lean.Grind.IsCharP α 10009] {X Y A B a b : α} (ha : A * a = 1) (hb : B * b = 1) (h : Y * Y * (A * A) - X * X * (B * B) = A * A * (B * B) + 56 * (X * X) * (Y * Y)) : (Y * b) * (Y * b) - (X * a) * (X * a) = 1 + 56 * ((X * a) * (X * a)) * ((Y * b) * (Y * b)) := by
  have h1 : (Y * Y * (A * A) - X * X * (B * B)) * (a * a * (b * b)) = (Y * b) * (Y * b) * ((A * a) * (A * a)) - (X * a) * (X * a) * ((B * b) * (B * b)) := by
    clear ha hb h
    grind
  have h2 : (A * A * (B * B) + 56 * (X * X) * (Y * Y)) * (a * a * (b * b)) = ((A * a) * (A * a)) * ((B * b) * (B * b)) + 56 * ((X * a) * (X * a)) * ((Y * b) * (Y * b)) := by
    clear ha hb h h1
    grind
  rw [h, h2, ha, hb] at h1
  clear h2 h ha hb
  grind
theorem rg_ax {α : Type} [Lean.Grind.CommRing α] [Lean.Grind.IsCharP α 10009] {x y u w : α} (h1 : y * y - x * x = 1 + 56 * (x * x) * (y * y)) (h2 : w * w - u * u = 1 + 56 * (u * u) * (w * w)) :
    ((x * w + y * u) * (1 - 56 * (x * u) * (y * w)) * 9579 + (y * w + x * u) * (1 + 56 * (x * u) * (y * w)) * 5090) * ((1 + 56 * (u * 5090) * (w * 9579)) * (1 - 56 * (u * 5090) * (w * 9579)) + 56 * (x * y) * ((u * 9579 + w * 5090) * (w * 9579 + u * 5090)))
      = (x * (w * 9579 + u * 5090) * (1 + 56 * (u * 5090) * (w * 9579)) + y * (u * 9579 + w * 5090) * (1 - 56 * (u * 5090) * (w * 9579))) * ((1 + 56 * (x * u) * (y * w)) * (1 - 56 * (x * u) * (y * w)) + 56 * (5090 * 9579) * ((x * w + y * u) * (y * w + x * u))) := by
  grind
theorem rg_ay {α : Type} [Lean.Grind.CommRing α] [Lean.Grind.IsCharP α 10009] {x y u w : α} (h1 : y * y - x * x = 1 + 56 * (x * x) * (y * y)) (h2 : w * w - u * u = 1 + 56 * (u * u) * (w * w)) :
    ((y * w + x * u) * (1 + 56 * (x * u) * (y * w)) * 9579 + (x * w + y * u) * (1 - 56 * (x * u) * (y * w)) * 5090) * ((1 + 56 * (u * 5090) * (w * 9579)) * (1 - 56 * (u * 5090) * (w * 9579)) - 56 * (x * y) * ((u * 9579 + w * 5090) * (w * 9579 + u * 5090)))
      = (y * (w * 9579 + u * 5090) * (1 + 56 * (u * 5090) * (w * 9579)) + x * (u * 9579 + w * 5090) * (1 - 56 * (u * 5090) * (w * 9579))) * ((1 + 56 * (x * u) * (y * w)) * (1 - 56 * (x * u) * (y * w)) - 56 * (5090 * 9579) * ((x * w + y * u) * (y * w + x * u))) := by
  grind
/-- a fraction over a sum of fractions -/
theorem rg_up {α : Type} [Lean.Grind.CommRing α] {A B a b k q t S : α} (hM : A * B * k = q) (hi : (1 + k) * t = 1) : S * t * (A * B + q) = S * (A * B) := by
  have h : S * t * (A * B + A * B * k) = S * (A * B) * ((1 + k) * t) := by clear hM hi; grind
  rw [hM, hi] at h
  rw [h]
  clear h hM hi
  grind
theorem rg_dn {α : Type} [Lean.Grind.CommRing α] {A B a b k q t S : α} (hM : A * B * k = q) (hi : (1 - k) * t = 1) : S * t * (A * B - q) = S * (A * B) := by
  have h : S * t * (A * B - A * B * k) = S * (A * B) * ((1 - k) * t) := by clear hM hi; grind
  rw [hM, hi] at h
  rw [h]
  clear h hM hi
  grind
theorem rg_q {α : Type} [Lean.Grind.CommRing α] {A B a b X Y g h f : α} (ha : A * a = 1) (hb : B * b = 1) : A * B * (f * (X * a * g) * (Y * b * h)) = f * (g * h) * (X * Y) := by
  have e : A * B * (f * (X * a * g) * (Y * b * h)) = f * (g * h) * (X * Y) * ((A * a) * (B * b)) := by clear ha hb; grind
  rw [e, ha, hb]
  clear e ha hb
  grind
theorem rg_q2 {α : Type} [Lean.Grind.CommRing α] {C D c d U V x y f : α} (hc : C * c = 1) (hd : D * d = 1) : C * D * (f * (x * (U * c)) * (y * (V * d))) = f * (x * y) * (U * V) := by
  have e : C * D * (f * (x * (U * c)) * (y * (V * d))) = f * (x * y) * (U * V) * ((C * c) * (D * d)) := by clear hc hd; grind
  rw [e, hc, hd]
  clear e hc hd
  grind
theorem rg_n1 {α : Type} [Lean.Grind.CommRing α] {A B a b X Y g h : α} (ha : A * a = 1) (hb : B * b = 1) : (X * a * g + Y * b * h) * (A * B) = X * B * g + Y * A * h := by
  have e : (X * a * g + Y * b * h) * (A * B) = X * B * g * (A * a) + Y * A * h * (B * b) := by clear ha hb; grind
  rw [e, ha, hb]
  clear e ha hb
  grind
theorem rg_n2 {α : Type} [Lean.Grind.CommRing α] {A B a b X Y g h : α} (ha : A * a = 1) (hb : B * b = 1) : (Y * b * g + X * a * h) * (A * B) = Y * A * g + X * B * h := by
  have e : (Y * b * g + X * a * h) * (A * B) = X * B * h * (A * a) + Y * A * g * (B * b) := by clear ha hb; grind
  rw [e, ha, hb]
  clear e ha hb
  grind
theorem rg_n3 {α : Type} [Lean.Grind.CommRing α] {C D c d U V x y : α} (hc : C * c = 1) (hd : D * d = 1) : (x * (V * d) + y * (U * c)) * (C * D) = x * V * C + y * U * D := by
  have e : (x * (V * d) + y * (U * c)) * (C * D) = x * V * C * (D * d) + y * U * D * (C * c) := by clear hc hd; grind
  rw [e, hc, hd]
  clear e hc hd
  grind
theorem rg_nz {α : Type} [Lean.Grind.CommRing α] {A B a b k q t : α} (ha : A * a = 1) (hb : B * b = 1) (hM : A * B * k = q) (hi : (1 + k) * t = 1) : (A * B + q) * (a * b * t) = 1 := by
  have h : (A * B + A * B * k) * (a * b * t) = (A * a) * (B * b) * ((1 + k) * t) := by clear ha hb hM hi; grind
  rw [hM, ha, hb, hi] at h
  rw [h]
  clear h ha hb hM hi
  grind
theorem rg_nz' {α : Type} [Lean.Grind.CommRing α] {A B a b k q t : α} (ha : A * a = 1) (hb : B * b = 1) (hM : A * B * k = q) (hi : (1 - k) * t = 1) : (A * B - q) * (a * b * t) = 1 := by
  have h : (A * B - A * B * k) * (a * b * t) = (A * a) * (B * b) * ((1 - k) * t) := by clear ha hb hM hi; grind
  rw [hM, ha, hb, hi] at h
  rw [h]
  clear h ha hb hM hi
  grind
theorem rg_x {α : Type} [Lean.Grind.CommRing α] {L R M1 M2 N1 N2 r1 r2 : α} (h1 : L * M1 = N1) (h2 : R * M2 = N2) (h : N1 * M2 = N2 * M1) (i1 : M1 * r1 = 1) (i2 : M2 * r2 = 1) : L = R := by
  have e1 : L * M1 * M2 * (r1 * r2) = L * ((M1 * r1) * (M2 * r2)) := by clear h1 h2 h i1 i2; grind
  have e2 : R * M2 * M1 * (r1 * r2) = R * ((M1 * r1) * (M2 * r2)) := by clear h1 h2 h i1 i2 e1; grind
  rw [h1, h, i1, i2] at e1
  rw [h2, i1, i2] at e2
  rw [e1] at e2
  clear h1 h2 h i1 i2 e1
  grind
theorem rg_c1 {α : Type} [Lean.Grind.CommRing α] (A B v : α) : A * (v * B) = A * B * v := by grind
theorem rg_c2 {α : Type} [Lean.Grind.CommRing α] (A B v : α) : B * (v * A) = A * B * v := by grind
theorem rg_s {α : Type} [Lean.Grind.CommRing α] {s t i f : α} (h1 : t * i = 1) (h : s * s = f * (t * t)) : (s * i) * (s * i) = f := by
  have e : (s * i) * (s * i) = s * s * (i * i) := by clear h1 h; grind
  have e2 : f * (t * t) * (i * i) = f * ((t * i) * (t * i)) := by clear h1 h e; grind
  rw [e, h, e2, h1]
  clear e e2 h h1
  grind
theorem rg_can {α : Type} [Lean.Grind.CommRing α] {u v w i : α} (h : w * i = 1) (e : u * w = v * w) : u = v := by
  have e1 : u * w * i = u * (w * i) := by clear h e; grind
  have e2 : v * w * i = v * (w * i) := by clear h e e1; grind
  rw [h] at e1 e2
  rw [e, e2] at e1
  clear e e2 h
  grind
theorem rg_asx {α : Type} [Lean.Grind.CommRing α] [Lean.Grind.IsCharP α 10009] {x y u w a b c d i j : α} (h1 : y * y - x * x = 1 + 56 * (x * x) * (y * y)) (h2 : w * w - u * u = 1 + 56 * (u * u) * (w * w)) (ea : (1 + 56 * (x * u) * (y * w)) * a = 1) (eb : (1 - 56 * (x * u) * (y * w)) * b = 1) (ec : (1 + 56 * (u * 5090) * (w * 9579)) * c = 1) (ed : (1 - 56 * (u * 5090) * (w * 9579)) * d = 1)
    (ei : (1 + 56 * ((x * w + y * u) * a * 5090) * ((y * w + x * u) * b * 9579)) * i = 1) (ej : (1 + 56 * (x * ((u * 9579 + w * 5090) * c)) * (y * ((w * 9579 + u * 5090) * d))) * j = 1) :
    ((x * w + y * u) * a * 9579 + (y * w + x * u) * b * 5090) * i = (x * ((w * 9579 + u * 5090) * d) + y * ((u * 9579 + w * 5090) * c)) * j := by
  have q1 := rg_q (X := x * w + y * u) (Y := y * w + x * u) (g := 5090) (h := 9579) (f := 56) ea eb
  have q2 := rg_q2 (U := u * 9579 + w * 5090) (V := w * 9579 + u * 5090) (x := x) (y := y) (f := 56) ec ed
  have n1 := rg_n1 (X := x * w + y * u) (Y := y * w + x * u) (g := 9579) (h := 5090) ea eb
  have n3 := rg_n3 (U := u * 9579 + w * 5090) (V := w * 9579 + u * 5090) (x := x) (y := y) ec ed
  refine rg_x ((rg_up (a := a) (b := b) q1 ei).trans n1) ((rg_up (a := c) (b := d) q2 ej).trans n3) ?_ (rg_nz ea eb q1 ei) (rg_nz ec ed q2 ej)
  exact rg_ax h1 h2
theorem rg_asy {α : Type} [Lean.Grind.CommRing α] [Lean.Grind.IsCharP α 10009] {x y u w a b c d i j : α} (h1 : y * y - x * x = 1 + 56 * (x * x) * (y * y)) (h2 : w * w - u * u = 1 + 56 * (u * u) * (w * w)) (ea : (1 + 56 * (x * u) * (y * w)) * a = 1) (eb : (1 - 56 * (x * u) * (y * w)) * b = 1) (ec : (1 + 56 * (u * 5090) * (w * 9579)) * c = 1) (ed : (1 - 56 * (u * 5090) * (w * 9579)) * d = 1)
    (ei : (1 - 56 * ((x * w + y * u) * a * 5090) * ((y * w + x * u) * b * 9579)) * i = 1) (ej : (1 - 56 * (x * ((u * 9579 + w * 5090) * c)) * (y * ((w * 9579 + u * 5090) * d))) * j = 1) :
    ((y * w + x * u) * b * 9579 + (x * w + y * u) * a * 5090) * i = (y * ((w * 9579 + u * 5090) * d) + x * ((u * 9579 + w * 5090) * c)) * j := by
  have q1 := rg_q (X := x * w + y * u) (Y := y * w + x * u) (g := 5090) (h := 9579) (f := 56) ea eb
  have q2 := rg_q2 (U := u * 9579 + w * 5090) (V := w * 9579 + u * 5090) (x := x) (y := y) (f := 56) ec ed
  have n1 := rg_n2 (X := x * w + y * u) (Y := y * w + x * u) (g := 9579) (h := 5090) ea eb
  have n3 := rg_n3 (U := u * 9579 + w * 5090) (V := w * 9579 + u * 5090) (x := y) (y := x) ec ed
  refine rg_x ((rg_dn (a := a) (b := b) q1 ei).trans n1) ((rg_dn (a := c) (b := d) q2 ej).trans n3) ?_ (rg_nz' ea eb q1 ei) (rg_nz' ec ed q2 ej)
  exact rg_ay h1 h2
