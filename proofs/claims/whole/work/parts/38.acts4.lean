/-! the acts of the class, whole -/
def bgs (O j K : Nat) : (Nat → Nat → Int32) → Nat → List Int32 → (Nat → Nat → Int32)
  | f, _, [] => f
  | f, m, b :: bs => bgs O j K (bg O j K f m b) (m + 1) bs
theorem bgs_app {O j K : Nat} : ∀ (a b : List Int32) (f : Nat → Nat → Int32) (m : Nat), bgs O j K f m (a ++ b) = bgs O j K (bgs O j K f m a) (m + a.length) b
  | [], b, f, m => rfl
  | x :: a, b, f, m => by
    show bgs O j K (bg O j K f m x) (m + 1) (a ++ b) = bgs O j K (bgs O j K (bg O j K f m x) (m + 1) a) (m + (a.length + 1)) b
    rw [bgs_app a b, show m + 1 + a.length = m + (a.length + 1) by omega]
theorem bgs_c {O j K : Nat} : ∀ (a : List Int32) (f : Nat → Nat → Int32) (m : Nat), f O j = nI m → bgs O j K f m a O j = nI (m + a.length)
  | [], f, m, h => h
  | x :: a, f, m, h => by
    show bgs O j K (bg O j K f m x) (m + 1) a O j = nI (m + (a.length + 1))
    rw [bgs_c a _ (m + 1) bg_c, show m + 1 + a.length = m + (a.length + 1) by omega]
theorem bgs_o {O j K i : Nat} (hi : ¬ i = j) (hK : ¬ O = K) : ∀ (a : List Int32) (f : Nat → Nat → Int32) (m : Nat), bgs O j K f m a O i = f O i
  | [], f, m => rfl
  | x :: a, f, m => by
    show bgs O j K (bg O j K f m x) (m + 1) a O i = _
    rw [bgs_o hi hK a, bg_o hi hK]
theorem bgs_n {O j K q : Nat} (hO : ¬ q = O) (hK : ¬ q = K) : ∀ (a : List Int32) (f : Nat → Nat → Int32) (m : Nat), bgs O j K f m a q = f q
  | [], f, m => rfl
  | x :: a, f, m => by
    show bgs O j K (bg O j K f m x) (m + 1) a q = _
    rw [bgs_n hO hK a, bg_n hO hK]
def slB : Nat → List Int32
  | 2 => [30, 10]
  | 4 => [50, 10]
  | 5 => [30, 10]
  | 6 => [71, 10]
  | _ => [10]
def slV (k : Nat) (x n v : Int32) : Int32 := match k with
  | 2 => x * 3 + n
  | 4 => -(x + n)
  | 5 => x * 3 + n
  | 6 => (x + n) ^^^ v
  | _ => x + n
theorem slB_len (k : Nat) : (slB k).length ≤ 2 := by
  unfold slB
  split <;> decide
section AC
variable {sc : aSc} {d : Nat} {f : Nat → Nat → Int32} {g : Nat → Nat → Int64} {h1 h2 : Nat} {m e : Nat} {x : Int32}
theorem SL0 (hm : f 49 1 = nI m) (hm2 : m ≤ 18) (he : e ≤ 10) : Cl sc (d + 4) 3 [.ref (49 : Nat), .int 0, .int 0, .int (x), .int (nI e)] (cS f g h1 h2) (cS (bgs 49 1 50 f m ([10])) g h1 h2, some (.int (x + f 49 3))) := by
  have h := @w10 sc (d + 2) (bg 49 1 50 f m 10) g h1 h2 (-1) x (nI (e + 1))
  rw [bg_o (by decide) (by decide)] at h
  exact f3_0_0 hm (by omega) (by omega) h
theorem SL1 (hm : f 49 1 = nI m) (hm2 : m ≤ 18) (he : e ≤ 10) : Cl sc (d + 4) 3 [.ref (49 : Nat), .int 0, .int 1, .int (x), .int (nI e)] (cS f g h1 h2) (cS (bgs 49 1 50 f m ([10])) g h1 h2, some (.int (x + f 49 3))) := by
  have h := @w10 sc (d + 2) (bg 49 1 50 f m 10) g h1 h2 (-1) x (nI (e + 1))
  rw [bg_o (by decide) (by decide)] at h
  exact f3_0_1 hm (by omega) (by omega) h
theorem SL3 (hm : f 49 1 = nI m) (hm2 : m ≤ 18) (he : e ≤ 10) : Cl sc (d + 4) 3 [.ref (49 : Nat), .int 0, .int 3, .int (x), .int (nI e)] (cS f g h1 h2) (cS (bgs 49 1 50 f m ([10])) g h1 h2, some (.int (x + f 49 3))) := by
  have h := @w10 sc (d + 2) (bg 49 1 50 f m 10) g h1 h2 (-1) x (nI (e + 1))
  rw [bg_o (by decide) (by decide)] at h
  exact f3_0_3 hm (by omega) (by omega) h
theorem SL2 (hm : f 49 1 = nI m) (hm2 : m ≤ 16) (he : e ≤ 9) : Cl sc (d + 6) 3 [.ref (49 : Nat), .int 0, .int 2, .int (x), .int (nI e)] (cS f g h1 h2) (cS (bgs 49 1 50 f m ([30, 10])) g h1 h2, some (.int (x * 3 + f 49 3))) := by
  have h := @SL0 sc d (bg 49 1 50 f m 30) g h1 h2 (m + 1) (e + 1) (x * 3) bg_c (by omega)
  have h := h (by omega)
  rw [bg_o (by decide) (by decide)] at h
  have q := w30 (a := 0) (x := x) h
  exact f3_0_2 hm (by omega) (by omega) q
theorem SL5 (hm : f 49 1 = nI m) (hm2 : m ≤ 16) (he : e ≤ 9) : Cl sc (d + 6) 3 [.ref (49 : Nat), .int 0, .int 5, .int (x), .int (nI e)] (cS f g h1 h2) (cS (bgs 49 1 50 f m ([30, 10])) g h1 h2, some (.int (x * 3 + f 49 3))) := by
  have h := @SL0 sc d (bg 49 1 50 f m 30) g h1 h2 (m + 1) (e + 1) (x * 3) bg_c (by omega)
  have h := h (by omega)
  rw [bg_o (by decide) (by decide)] at h
  have q := w30 (a := 0) (x := x) h
  exact f3_0_5 hm (by omega) (by omega) q
theorem SL4 (hm : f 49 1 = nI m) (hm2 : m ≤ 16) (he : e ≤ 9) : Cl sc (d + 6) 3 [.ref (49 : Nat), .int 0, .int 4, .int (x), .int (nI e)] (cS f g h1 h2) (cS (bgs 49 1 50 f m ([50, 10])) g h1 h2, some (.int (-(x + f 49 3)))) := by
  have h := @SL1 sc d (bg 49 1 50 f m 50) g h1 h2 (m + 1) (e + 1) (x) bg_c (by omega)
  have h := h (by omega)
  rw [bg_o (by decide) (by decide)] at h
  have q := w50 (a := 1) (x := x) h
  exact f3_0_4 hm (by omega) (by omega) q
theorem SL6 (hm : f 49 1 = nI m) (hm2 : m ≤ 16) (he : e ≤ 9) : Cl sc (d + 6) 3 [.ref (49 : Nat), .int 0, .int 6, .int (x), .int (nI e)] (cS f g h1 h2) (cS (bgs 49 1 50 f m ([71, 10])) g h1 h2, some (.int ((x + f 49 3) ^^^ f 49 4))) := by
  have h := @SL3 sc d (bg 49 1 50 f m 71) g h1 h2 (m + 1) (e + 1) (x) bg_c (by omega)
  have h := h (by omega)
  rw [bg_o (by decide) (by decide)] at h
  have q := w71 (a := 3) (x := x) h
  rw [bgs_o (by decide) (by decide), bg_o (by decide) (by decide)] at q
  exact f3_0_6 hm (by omega) (by omega) q
theorem SLc {k : Nat} (hk : k ≤ 6) (hm : f 49 1 = nI m) (hm2 : m ≤ 16) (he : e ≤ 9) : Cl sc (d + 6) 3 [.ref (49 : Nat), .int 0, .int (nI k), .int x, .int (nI e)] (cS f g h1 h2) (cS (bgs 49 1 50 f m (slB k)) g h1 h2, some (.int (slV k x (f 49 3) (f 49 4)))) :=
  match k, hk with
  | 0, _ => SL0 (d := d + 2) hm (by omega) (by omega)
  | 1, _ => SL1 (d := d + 2) hm (by omega) (by omega)
  | 2, _ => SL2 hm hm2 he
  | 3, _ => SL3 (d := d + 2) hm (by omega) (by omega)
  | 4, _ => SL4 hm hm2 he
  | 5, _ => SL5 hm hm2 he
  | 6, _ => SL6 hm hm2 he
def puB (k : Nat) : List Int32 := 11 :: slB k
def puV (k : Nat) (x n v : Int32) : Int32 := slV k x n v - v
theorem puB_len (k : Nat) : (puB k).length ≤ 3 := by
  have := slB_len k
  show (slB k).length + 1 ≤ 3
  omega
theorem P0 {q : Nat} (hq : q ≤ 6) (h2k : f 49 2 = nI q) (hm : f 49 1 = nI m) (hm2 : m ≤ 15) (he : e ≤ 8) : Cl sc (d + 8) 3 [.ref (49 : Nat), .int 1, .int 0, .int x, .int (nI e)] (cS f g h1 h2) (cS (bgs 49 1 50 f m (puB q)) g h1 h2, some (.int (puV q x (f 49 3) (f 49 4)))) := by
  have h := @SLc sc d (bg 49 1 50 f m 11) g h1 h2 (m + 1) (e + 1) x q hq bg_c (by omega) (by omega)
  rw [bg_o (by decide) (by decide), bg_o (by decide) (by decide)] at h
  have e1 : bg 49 1 50 f m 11 49 2 = nI q := by rw [bg_o (by decide) (by decide)]; exact h2k
  rw [← e1] at h
  have w := w11 (a := -1) (x := x) h
  rw [bgs_o (by decide) (by decide), bg_o (by decide) (by decide)] at w
  exact f3_1_0 hm (by omega) (by omega) w
theorem P2 {q : Nat} (hq : q ≤ 6) (h2k : f 49 2 = nI q) (hm : f 49 1 = nI m) (hm2 : m ≤ 15) (he : e ≤ 8) : Cl sc (d + 8) 3 [.ref (49 : Nat), .int 1, .int 2, .int x, .int (nI e)] (cS f g h1 h2) (cS (bgs 49 1 50 f m (puB q)) g h1 h2, some (.int (puV q x (f 49 3) (f 49 4)))) := by
  have h := @SLc sc d (bg 49 1 50 f m 11) g h1 h2 (m + 1) (e + 1) x q hq bg_c (by omega) (by omega)
  rw [bg_o (by decide) (by decide), bg_o (by decide) (by decide)] at h
  have e1 : bg 49 1 50 f m 11 49 2 = nI q := by rw [bg_o (by decide) (by decide)]; exact h2k
  rw [← e1] at h
  have w := w11 (a := -1) (x := x) h
  rw [bgs_o (by decide) (by decide), bg_o (by decide) (by decide)] at w
  exact f3_1_2 hm (by omega) (by omega) w
theorem P3 {q : Nat} (hq : q ≤ 6) (h2k : f 49 2 = nI q) (hm : f 49 1 = nI m) (hm2 : m ≤ 15) (he : e ≤ 8) : Cl sc (d + 8) 3 [.ref (49 : Nat), .int 1, .int 3, .int x, .int (nI e)] (cS f g h1 h2) (cS (bgs 49 1 50 f m (puB q)) g h1 h2, some (.int (puV q x (f 49 3) (f 49 4)))) := by
  have h := @SLc sc d (bg 49 1 50 f m 11) g h1 h2 (m + 1) (e + 1) x q hq bg_c (by omega) (by omega)
  rw [bg_o (by decide) (by decide), bg_o (by decide) (by decide)] at h
  have e1 : bg 49 1 50 f m 11 49 2 = nI q := by rw [bg_o (by decide) (by decide)]; exact h2k
  rw [← e1] at h
  have w := w11 (a := -1) (x := x) h
  rw [bgs_o (by decide) (by decide), bg_o (by decide) (by decide)] at w
  exact f3_1_3 hm (by omega) (by omega) w
theorem P5 {q : Nat} (hq : q ≤ 6) (h2k : f 49 2 = nI q) (hm : f 49 1 = nI m) (hm2 : m ≤ 15) (he : e ≤ 8) : Cl sc (d + 8) 3 [.ref (49 : Nat), .int 1, .int 5, .int x, .int (nI e)] (cS f g h1 h2) (cS (bgs 49 1 50 f m (puB q)) g h1 h2, some (.int (puV q x (f 49 3) (f 49 4)))) := by
  have h := @SLc sc d (bg 49 1 50 f m 11) g h1 h2 (m + 1) (e + 1) x q hq bg_c (by omega) (by omega)
  rw [bg_o (by decide) (by decide), bg_o (by decide) (by decide)] at h
  have e1 : bg 49 1 50 f m 11 49 2 = nI q := by rw [bg_o (by decide) (by decide)]; exact h2k
  rw [← e1] at h
  have w := w11 (a := -1) (x := x) h
  rw [bgs_o (by decide) (by decide), bg_o (by decide) (by decide)] at w
  exact f3_1_5 hm (by omega) (by omega) w
theorem LQ {q : Nat} (hq : q ≤ 6) (h2k : f 49 2 = nI q) (hm : f 49 1 = nI m) (hm2 : m ≤ 14) (he : e ≤ 7) : Cl sc (d + 10) 3 [.ref (49 : Nat), .int 1, .int 1, .int x, .int (nI e)] (cS f g h1 h2) (cS (bgs 49 1 50 f m (20 :: puB q)) g h1 h2, some (.int (puV q x (f 49 3) (f 49 4) ^^^ 6))) := by
  have h := @P0 sc d (bg 49 1 50 f m 20) g h1 h2 (m + 1) (e + 1) x q hq (by rw [bg_o (by decide) (by decide)]; exact h2k) bg_c (by omega) (by omega)
  rw [bg_o (by decide) (by decide), bg_o (by decide) (by decide)] at h
  exact f3_1_1 hm (by omega) (by omega) (w20 (a := 0) (x := x) h)
def paB : Nat → List Int32
  | 1 => 20 :: puB 1
  | 4 => 51 :: 20 :: puB 4
  | 6 => 70 :: (puB 6 ++ [10])
  | k => puB k
def paV (k : Nat) (x n v : Int32) : Int32 := match k with
  | 1 => puV 1 x n v ^^^ 6
  | 4 => puV 4 (x + 1) n v ^^^ 6
  | 6 => puV 6 x n v + (2 + n)
  | _ => puV k x n v
theorem PAc {q : Nat} (hq : q ≤ 6) (h2k : f 49 2 = nI q) (hm : f 49 1 = nI m) (hm2 : m ≤ 13) (he : e ≤ 6) : Cl sc (d + 12) 3 [.ref (49 : Nat), .int 1, .int (nI q), .int x, .int (nI e)] (cS f g h1 h2) (cS (bgs 49 1 50 f m (paB q)) g h1 h2, some (.int (paV q x (f 49 3) (f 49 4)))) :=
  match q, hq, h2k with
  | 0, hq, h2k => P0 (d := d + 4) hq h2k hm (by omega) (by omega)
  | 1, hq, h2k => LQ (d := d + 2) hq h2k hm (by omega) (by omega)
  | 2, hq, h2k => P2 (d := d + 4) hq h2k hm (by omega) (by omega)
  | 3, hq, h2k => P3 (d := d + 4) hq h2k hm (by omega) (by omega)
  | 4, hq, h2k => by
    have h := @LQ sc d (bg 49 1 50 f m 51) g h1 h2 (m + 1) (e + 1) (x + 1) 4 hq (by rw [bg_o (by decide) (by decide)]; exact h2k) bg_c (by omega) (by omega)
    rw [bg_o (by decide) (by decide), bg_o (by decide) (by decide)] at h
    exact f3_1_4 hm (by omega) (by omega) (w51 (a := 1) (x := x) h)
  | 5, hq, h2k => P5 (d := d + 4) hq h2k hm (by omega) (by omega)
  | 6, hq, h2k => by
    have h := @P3 sc (d + 2) (bg 49 1 50 f m 70) g h1 h2 (m + 1) (e + 1) x 6 hq (by rw [bg_o (by decide) (by decide)]; exact h2k) bg_c (by omega) (by omega)
    rw [bg_o (by decide) (by decide), bg_o (by decide) (by decide)] at h
    have k := @SL3 sc (d + 6) (bgs 49 1 50 (bg 49 1 50 f m 70) (m + 1) (puB 6)) g h1 h2 (m + 1 + 3) (e + 1) 2 (bgs_c _ _ _ bg_c) (by omega) (by omega)
    rw [bgs_o (by decide) (by decide), bg_o (by decide) (by decide)] at k
    exact f3_1_6 hm (by omega) (by omega) (w70 (a := 3) (x := x) h k)
/-- tells through body 12 -/
theorem T0 {q : Nat} (hq : q ≤ 6) (h2k : f 49 2 = nI q) (hm : f 49 1 = nI m) (hm2 : m ≤ 12) (he : e ≤ 5) : Cl sc (d + 14) 3 [.ref (49 : Nat), .int 2, .int 0, .int x, .int (nI e)] (cS f g h1 h2) (cS (bgs 49 1 50 f m (12 :: paB q)) g h1 h2, some (.int (paV q x (f 49 3) (f 49 4) * 2))) := by
  have h := @PAc sc d (bg 49 1 50 f m 12) g h1 h2 (m + 1) (e + 1) x q hq (by rw [bg_o (by decide) (by decide)]; exact h2k) bg_c (by omega) (by omega)
  rw [bg_o (by decide) (by decide), bg_o (by decide) (by decide)] at h
  have e1 : bg 49 1 50 f m 12 49 2 = nI q := by rw [bg_o (by decide) (by decide)]; exact h2k
  rw [← e1] at h
  exact f3_2_0 hm (by omega) (by omega) (w12 (a := -1) (x := x) h)
theorem T1 {q : Nat} (hq : q ≤ 6) (h2k : f 49 2 = nI q) (hm : f 49 1 = nI m) (hm2 : m ≤ 12) (he : e ≤ 5) : Cl sc (d + 14) 3 [.ref (49 : Nat), .int 2, .int 1, .int x, .int (nI e)] (cS f g h1 h2) (cS (bgs 49 1 50 f m (12 :: paB q)) g h1 h2, some (.int (paV q x (f 49 3) (f 49 4) * 2))) := by
  have h := @PAc sc d (bg 49 1 50 f m 12) g h1 h2 (m + 1) (e + 1) x q hq (by rw [bg_o (by decide) (by decide)]; exact h2k) bg_c (by omega) (by omega)
  rw [bg_o (by decide) (by decide), bg_o (by decide) (by decide)] at h
  have e1 : bg 49 1 50 f m 12 49 2 = nI q := by rw [bg_o (by decide) (by decide)]; exact h2k
  rw [← e1] at h
  exact f3_2_1 hm (by omega) (by omega) (w12 (a := -1) (x := x) h)
theorem T2 {q : Nat} (hq : q ≤ 6) (h2k : f 49 2 = nI q) (hm : f 49 1 = nI m) (hm2 : m ≤ 12) (he : e ≤ 5) : Cl sc (d + 14) 3 [.ref (49 : Nat), .int 2, .int 2, .int x, .int (nI e)] (cS f g h1 h2) (cS (bgs 49 1 50 f m (12 :: paB q)) g h1 h2, some (.int (paV q x (f 49 3) (f 49 4) * 2))) := by
  have h := @PAc sc d (bg 49 1 50 f m 12) g h1 h2 (m + 1) (e + 1) x q hq (by rw [bg_o (by decide) (by decide)]; exact h2k) bg_c (by omega) (by omega)
  rw [bg_o (by decide) (by decide), bg_o (by decide) (by decide)] at h
  have e1 : bg 49 1 50 f m 12 49 2 = nI q := by rw [bg_o (by decide) (by decide)]; exact h2k
  rw [← e1] at h
  exact f3_2_2 hm (by omega) (by omega) (w12 (a := -1) (x := x) h)
theorem T4 {q : Nat} (hq : q ≤ 6) (h2k : f 49 2 = nI q) (hm : f 49 1 = nI m) (hm2 : m ≤ 12) (he : e ≤ 5) : Cl sc (d + 14) 3 [.ref (49 : Nat), .int 2, .int 4, .int x, .int (nI e)] (cS f g h1 h2) (cS (bgs 49 1 50 f m (12 :: paB q)) g h1 h2, some (.int (paV q x (f 49 3) (f 49 4) * 2))) := by
  have h := @PAc sc d (bg 49 1 50 f m 12) g h1 h2 (m + 1) (e + 1) x q hq (by rw [bg_o (by decide) (by decide)]; exact h2k) bg_c (by omega) (by omega)
  rw [bg_o (by decide) (by decide), bg_o (by decide) (by decide)] at h
  have e1 : bg 49 1 50 f m 12 49 2 = nI q := by rw [bg_o (by decide) (by decide)]; exact h2k
  rw [← e1] at h
  exact f3_2_4 hm (by omega) (by omega) (w12 (a := -1) (x := x) h)
def teB : Nat → List Int32
  | 3 => 40 :: (12 :: paB 3 ++ paB 3)
  | 5 => 60 :: 12 :: paB 5
  | 6 => 40 :: (12 :: paB 6 ++ paB 6)
  | k => 12 :: paB k
def teV (k : Nat) (x n v : Int32) : Int32 := match k with
  | 3 => paV 3 x n v * 2 + paV 3 1 n v
  | 5 => paV 5 (x - n) n v * 2
  | 6 => paV 6 x n v * 2 + paV 6 1 n v
  | _ => paV k x n v * 2
theorem TE3 (h2k : f 49 2 = nI 3) (hm : f 49 1 = nI m) (hm2 : m ≤ 5) (he : e ≤ 4) : Cl sc (d + 16) 3 [.ref (49 : Nat), .int 2, .int 3, .int x, .int (nI e)] (cS f g h1 h2) (cS (bgs 49 1 50 (bg 49 1 50 f m 40) (m + 1) (12 :: paB 3 ++ paB 3)) g h1 h2, some (.int (paV 3 x (f 49 3) (f 49 4) * 2 + paV 3 1 (f 49 3) (f 49 4)))) := by
  have e2 : bg 49 1 50 f m 40 49 2 = nI 3 := by rw [bg_o (by decide) (by decide)]; exact h2k
  have h := @T0 sc d (bg 49 1 50 f m 40) g h1 h2 (m + 1) (e + 1) x 3 (by decide) e2 bg_c (by omega) (by omega)
  rw [bg_o (by decide) (by decide), bg_o (by decide) (by decide)] at h
  have e3 : bgs 49 1 50 (bg 49 1 50 f m 40) (m + 1) (12 :: paB 3) 49 2 = nI 3 := by rw [bgs_o (by decide) (by decide)]; exact e2
  have k := @PAc sc (d + 2) (bgs 49 1 50 (bg 49 1 50 f m 40) (m + 1) (12 :: paB 3)) g h1 h2 (m + 1 + (12 :: paB 3).length) (e + 1) 1 3 (by decide) e3 (bgs_c _ _ _ bg_c) (by show m + 1 + 3 ≤ 13; omega) (by omega)
  rw [bgs_o (by decide) (by decide), bg_o (by decide) (by decide), bgs_o (by decide) (by decide), bg_o (by decide) (by decide), ← bgs_app, ← e3] at k
  have w := w40 (a := 0) (x := x) h k
  exact f3_2_3 hm (by omega) (by omega) w
theorem TE6 (h2k : f 49 2 = nI 6) (hm : f 49 1 = nI m) (hm2 : m ≤ 5) (he : e ≤ 4) : Cl sc (d + 16) 3 [.ref (49 : Nat), .int 2, .int 6, .int x, .int (nI e)] (cS f g h1 h2) (cS (bgs 49 1 50 (bg 49 1 50 f m 40) (m + 1) (12 :: paB 6 ++ paB 6)) g h1 h2, some (.int (paV 6 x (f 49 3) (f 49 4) * 2 + paV 6 1 (f 49 3) (f 49 4)))) := by
  have e2 : bg 49 1 50 f m 40 49 2 = nI 6 := by rw [bg_o (by decide) (by decide)]; exact h2k
  have h := @T0 sc d (bg 49 1 50 f m 40) g h1 h2 (m + 1) (e + 1) x 6 (by decide) e2 bg_c (by omega) (by omega)
  rw [bg_o (by decide) (by decide), bg_o (by decide) (by decide)] at h
  have e3 : bgs 49 1 50 (bg 49 1 50 f m 40) (m + 1) (12 :: paB 6) 49 2 = nI 6 := by rw [bgs_o (by decide) (by decide)]; exact e2
  have k := @PAc sc (d + 2) (bgs 49 1 50 (bg 49 1 50 f m 40) (m + 1) (12 :: paB 6)) g h1 h2 (m + 1 + (12 :: paB 6).length) (e + 1) 1 6 (by decide) e3 (bgs_c _ _ _ bg_c) (by show m + 1 + 6 ≤ 13; omega) (by omega)
  rw [bgs_o (by decide) (by decide), bg_o (by decide) (by decide), bgs_o (by decide) (by decide), bg_o (by decide) (by decide), ← bgs_app, ← e3] at k
  have w := w40 (a := 0) (x := x) h k
  exact f3_2_6 hm (by omega) (by omega) w
theorem bgs_cons {O j K : Nat} {f : Nat → Nat → Int32} {m : Nat} {b : Int32} {bs : List Int32} : bgs O j K f m (b :: bs) = bgs O j K (bg O j K f m b) (m + 1) bs := rfl
theorem lt0 : nI 0 = 0 := rfl
theorem lt1 : nI 1 = 1 := rfl
theorem lt2 : nI 2 = 2 := rfl
theorem lt3 : nI 3 = 3 := rfl
theorem lt4 : nI 4 = 4 := rfl
theorem lt5 : nI 5 = 5 := rfl
theorem lt6 : nI 6 = 6 := rfl
theorem TEc {q : Nat} (hq : q ≤ 6) (h2k : f 49 2 = nI q) (hm : f 49 1 = nI m) (hm2 : m ≤ 5) (he : e ≤ 4) : Cl sc (d + 16) 3 [.ref (49 : Nat), .int 2, .int (nI q), .int x, .int (nI e)] (cS f g h1 h2) (cS (bgs 49 1 50 f m (teB q)) g h1 h2, some (.int (teV q x (f 49 3) (f 49 4)))) :=
  match q, hq, h2k with
  | 0, hq, h2k => by
    have e1 : teB 0 = 12 :: paB 0 := rfl
    have e2 : ∀ n v, teV 0 x n v = paV 0 x n v * 2 := fun _ _ => rfl
    rw [e1, e2, lt0]
    have q := T0 (sc := sc) (d := d + 2) (g := g) (h1 := h1) (h2 := h2) (x := x) hq h2k hm (by omega) (show e ≤ 5 by omega)
    exact q
  | 1, hq, h2k => by
    have e1 : teB 1 = 12 :: paB 1 := rfl
    have e2 : ∀ n v, teV 1 x n v = paV 1 x n v * 2 := fun _ _ => rfl
    rw [e1, e2, lt1]
    have q := T1 (sc := sc) (d := d + 2) (g := g) (h1 := h1) (h2 := h2) (x := x) hq h2k hm (by omega) (show e ≤ 5 by omega)
    exact q
  | 2, hq, h2k => by
    have e1 : teB 2 = 12 :: paB 2 := rfl
    have e2 : ∀ n v, teV 2 x n v = paV 2 x n v * 2 := fun _ _ => rfl
    rw [e1, e2, lt2]
    have q := T2 (sc := sc) (d := d + 2) (g := g) (h1 := h1) (h2 := h2) (x := x) hq h2k hm (by omega) (show e ≤ 5 by omega)
    exact q
  | 3, hq, h2k => by
    have e1 : teB 3 = 40 :: (12 :: paB 3 ++ paB 3) := rfl
    have e2 : ∀ n v, teV 3 x n v = paV 3 x n v * 2 + paV 3 1 n v := fun _ _ => rfl
    rw [e1, e2, lt3, bgs_cons]
    have q := TE3 (sc := sc) (x := x) (d := d) (g := g) (h1 := h1) (h2 := h2) h2k hm hm2 he
    exact q
  | 4, hq, h2k => by
    have e1 : teB 4 = 12 :: paB 4 := rfl
    have e2 : ∀ n v, teV 4 x n v = paV 4 x n v * 2 := fun _ _ => rfl
    rw [e1, e2, lt4]
    have q := T4 (sc := sc) (d := d + 2) (g := g) (h1 := h1) (h2 := h2) (x := x) hq h2k hm (by omega) (show e ≤ 5 by omega)
    exact q
  | 5, hq, h2k => by
    have e1 : teB 5 = 60 :: 12 :: paB 5 := rfl
    have e2 : ∀ n v, teV 5 x n v = paV 5 (x - n) n v * 2 := fun _ _ => rfl
    rw [e1, e2, lt5]
    have h := @T2 sc d (bg 49 1 50 f m 60) g h1 h2 (m + 1) (e + 1) (x - f 49 3) 5 hq (by rw [bg_o (by decide) (by decide)]; exact h2k) bg_c (by omega) (by omega)
    rw [bg_o (by decide) (by decide), bg_o (by decide) (by decide)] at h
    have e4 : bg 49 1 50 f m 60 49 3 = f 49 3 := bg_o (by decide) (by decide)
    exact f3_2_5 hm (by omega) (by omega) (w60 (a := 2) (x := x) (by rw [e4]; exact h))
  | 6, hq, h2k => by
    have e1 : teB 6 = 40 :: (12 :: paB 6 ++ paB 6) := rfl
    have e2 : ∀ n v, teV 6 x n v = paV 6 x n v * 2 + paV 6 1 n v := fun _ _ => rfl
    rw [e1, e2, lt6, bgs_cons]
    have q := TE6 (sc := sc) (x := x) (d := d) (g := g) (h1 := h1) (h2 := h2) h2k hm hm2 he
    exact q
end AC
