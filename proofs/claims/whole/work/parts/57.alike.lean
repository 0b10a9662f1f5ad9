/-! class and reference alike, whole (begun by wip/whole/mk57.py) -/
def DSim (f : Nat → Nat → Int32) (c : Nat) (T : Nat → Int32) (B : Nat → Nat → Int32) (n hr wn dk sd gb pc bc : Nat) (W : Nat → Nat) (D : aD) : Prop :=
  (n ≤ 7) ∧ (hr ≤ 9999) ∧ (wn ≤ 9999) ∧ (dk < 2 ^ n) ∧ (sd < 2 ^ n) ∧ (gb < 2 ^ n) ∧ (pc ≤ 12) ∧ (bc ≤ 12) ∧ (f c 0 = nI n) ∧ (f c 1 = nI hr) ∧ (f c 2 = nI wn) ∧ (f c 3 = nI dk) ∧ (f c 4 = nI sd) ∧ (f c 5 = nI gb) ∧ (f c 11 = nI pc) ∧ (f c 14 = nI bc) ∧ (T 0 = nI n) ∧ (T 1 = nI sd) ∧ (T 2 = nI hr) ∧ (T 3 = nI wn) ∧ (T 5 = nI dk) ∧ (T 6 = nI pc) ∧ (T 7 = nI bc) ∧ (∀ s, s < n → f (c + 1) s = nI (dK D s) ∧ f (c + 2) s = nI (dV D s) ∧ f (c + 3) s = nI (dL D s) ∧ f (c + 4) s = nI (W s) ∧ W s ≤ 99) ∧ (∀ s, s < n → B 1 s = nI (dK D s) ∧ B 2 s = nI (dV D s) ∧ B 3 s = nI (dL D s) ∧ B 4 s = nI (bt gb s) ∧ B 5 s = nI (W s)) ∧ (∀ k, k < 28 → f (c + 5) k = nI (dR D k) ∧ B 6 k = nI (dR D k) ∧ (4 * n ≤ k → dR D k = 0)) ∧ (∀ i, i < pc → ∃ a b, a < n ∧ b < n ∧ a ≠ b ∧ f (c + 6) i = nI a ∧ f (c + 7) i = nI b ∧ B 7 i = nI a ∧ B 8 i = nI b) ∧ (∀ i, i < bc → ∃ s x, s < n ∧ x ≤ 999 ∧ f (c + 8) i = nI s ∧ f (c + 9) i = nI x ∧ B 9 i = nI s ∧ B 10 i = nI x) ∧ (DOK D n)
theorem DSim.b0 {f : Nat → Nat → Int32} {c : Nat} {T : Nat → Int32} {B : Nat → Nat → Int32} {n hr wn dk sd gb pc bc : Nat} {W : Nat → Nat} {D : aD} (H : DSim f c T B n hr wn dk sd gb pc bc W D) : n ≤ 7 := H.1
theorem DSim.b1 {f : Nat → Nat → Int32} {c : Nat} {T : Nat → Int32} {B : Nat → Nat → Int32} {n hr wn dk sd gb pc bc : Nat} {W : Nat → Nat} {D : aD} (H : DSim f c T B n hr wn dk sd gb pc bc W D) : hr ≤ 9999 := H.2.1
theorem DSim.b2 {f : Nat → Nat → Int32} {c : Nat} {T : Nat → Int32} {B : Nat → Nat → Int32} {n hr wn dk sd gb pc bc : Nat} {W : Nat → Nat} {D : aD} (H : DSim f c T B n hr wn dk sd gb pc bc W D) : wn ≤ 9999 := H.2.2.1
theorem DSim.b3 {f : Nat → Nat → Int32} {c : Nat} {T : Nat → Int32} {B : Nat → Nat → Int32} {n hr wn dk sd gb pc bc : Nat} {W : Nat → Nat} {D : aD} (H : DSim f c T B n hr wn dk sd gb pc bc W D) : dk < 2 ^ n := H.2.2.2.1
theorem DSim.b4 {f : Nat → Nat → Int32} {c : Nat} {T : Nat → Int32} {B : Nat → Nat → Int32} {n hr wn dk sd gb pc bc : Nat} {W : Nat → Nat} {D : aD} (H : DSim f c T B n hr wn dk sd gb pc bc W D) : sd < 2 ^ n := H.2.2.2.2.1
theorem DSim.b5 {f : Nat → Nat → Int32} {c : Nat} {T : Nat → Int32} {B : Nat → Nat → Int32} {n hr wn dk sd gb pc bc : Nat} {W : Nat → Nat} {D : aD} (H : DSim f c T B n hr wn dk sd gb pc bc W D) : gb < 2 ^ n := H.2.2.2.2.2.1
theorem DSim.b6 {f : Nat → Nat → Int32} {c : Nat} {T : Nat → Int32} {B : Nat → Nat → Int32} {n hr wn dk sd gb pc bc : Nat} {W : Nat → Nat} {D : aD} (H : DSim f c T B n hr wn dk sd gb pc bc W D) : pc ≤ 12 := H.2.2.2.2.2.2.1
theorem DSim.b7 {f : Nat → Nat → Int32} {c : Nat} {T : Nat → Int32} {B : Nat → Nat → Int32} {n hr wn dk sd gb pc bc : Nat} {W : Nat → Nat} {D : aD} (H : DSim f c T B n hr wn dk sd gb pc bc W D) : bc ≤ 12 := H.2.2.2.2.2.2.2.1
theorem DSim.c0 {f : Nat → Nat → Int32} {c : Nat} {T : Nat → Int32} {B : Nat → Nat → Int32} {n hr wn dk sd gb pc bc : Nat} {W : Nat → Nat} {D : aD} (H : DSim f c T B n hr wn dk sd gb pc bc W D) : f c 0 = nI n := H.2.2.2.2.2.2.2.2.1
theorem DSim.c1 {f : Nat → Nat → Int32} {c : Nat} {T : Nat → Int32} {B : Nat → Nat → Int32} {n hr wn dk sd gb pc bc : Nat} {W : Nat → Nat} {D : aD} (H : DSim f c T B n hr wn dk sd gb pc bc W D) : f c 1 = nI hr := H.2.2.2.2.2.2.2.2.2.1
theorem DSim.c2 {f : Nat → Nat → Int32} {c : Nat} {T : Nat → Int32} {B : Nat → Nat → Int32} {n hr wn dk sd gb pc bc : Nat} {W : Nat → Nat} {D : aD} (H : DSim f c T B n hr wn dk sd gb pc bc W D) : f c 2 = nI wn := H.2.2.2.2.2.2.2.2.2.2.1
theorem DSim.c3 {f : Nat → Nat → Int32} {c : Nat} {T : Nat → Int32} {B : Nat → Nat → Int32} {n hr wn dk sd gb pc bc : Nat} {W : Nat → Nat} {D : aD} (H : DSim f c T B n hr wn dk sd gb pc bc W D) : f c 3 = nI dk := H.2.2.2.2.2.2.2.2.2.2.2.1
theorem DSim.c4 {f : Nat → Nat → Int32} {c : Nat} {T : Nat → Int32} {B : Nat → Nat → Int32} {n hr wn dk sd gb pc bc : Nat} {W : Nat → Nat} {D : aD} (H : DSim f c T B n hr wn dk sd gb pc bc W D) : f c 4 = nI sd := H.2.2.2.2.2.2.2.2.2.2.2.2.1
theorem DSim.c5 {f : Nat → Nat → Int32} {c : Nat} {T : Nat → Int32} {B : Nat → Nat → Int32} {n hr wn dk sd gb pc bc : Nat} {W : Nat → Nat} {D : aD} (H : DSim f c T B n hr wn dk sd gb pc bc W D) : f c 5 = nI gb := H.2.2.2.2.2.2.2.2.2.2.2.2.2.1
theorem DSim.c6 {f : Nat → Nat → Int32} {c : Nat} {T : Nat → Int32} {B : Nat → Nat → Int32} {n hr wn dk sd gb pc bc : Nat} {W : Nat → Nat} {D : aD} (H : DSim f c T B n hr wn dk sd gb pc bc W D) : f c 11 = nI pc := H.2.2.2.2.2.2.2.2.2.2.2.2.2.2.1
theorem DSim.c7 {f : Nat → Nat → Int32} {c : Nat} {T : Nat → Int32} {B : Nat → Nat → Int32} {n hr wn dk sd gb pc bc : Nat} {W : Nat → Nat} {D : aD} (H : DSim f c T B n hr wn dk sd gb pc bc W D) : f c 14 = nI bc := H.2.2.2.2.2.2.2.2.2.2.2.2.2.2.2.1
theorem DSim.m0 {f : Nat → Nat → Int32} {c : Nat} {T : Nat → Int32} {B : Nat → Nat → Int32} {n hr wn dk sd gb pc bc : Nat} {W : Nat → Nat} {D : aD} (H : DSim f c T B n hr wn dk sd gb pc bc W D) : T 0 = nI n := H.2.2.2.2.2.2.2.2.2.2.2.2.2.2.2.2.1
theorem DSim.m1 {f : Nat → Nat → Int32} {c : Nat} {T : Nat → Int32} {B : Nat → Nat → Int32} {n hr wn dk sd gb pc bc : Nat} {W : Nat → Nat} {D : aD} (H : DSim f c T B n hr wn dk sd gb pc bc W D) : T 1 = nI sd := H.2.2.2.2.2.2.2.2.2.2.2.2.2.2.2.2.2.1
theorem DSim.m2 {f : Nat → Nat → Int32} {c : Nat} {T : Nat → Int32} {B : Nat → Nat → Int32} {n hr wn dk sd gb pc bc : Nat} {W : Nat → Nat} {D : aD} (H : DSim f c T B n hr wn dk sd gb pc bc W D) : T 2 = nI hr := H.2.2.2.2.2.2.2.2.2.2.2.2.2.2.2.2.2.2.1
theorem DSim.m3 {f : Nat → Nat → Int32} {c : Nat} {T : Nat → Int32} {B : Nat → Nat → Int32} {n hr wn dk sd gb pc bc : Nat} {W : Nat → Nat} {D : aD} (H : DSim f c T B n hr wn dk sd gb pc bc W D) : T 3 = nI wn := H.2.2.2.2.2.2.2.2.2.2.2.2.2.2.2.2.2.2.2.1
theorem DSim.m5 {f : Nat → Nat → Int32} {c : Nat} {T : Nat → Int32} {B : Nat → Nat → Int32} {n hr wn dk sd gb pc bc : Nat} {W : Nat → Nat} {D : aD} (H : DSim f c T B n hr wn dk sd gb pc bc W D) : T 5 = nI dk := H.2.2.2.2.2.2.2.2.2.2.2.2.2.2.2.2.2.2.2.2.1
theorem DSim.m6 {f : Nat → Nat → Int32} {c : Nat} {T : Nat → Int32} {B : Nat → Nat → Int32} {n hr wn dk sd gb pc bc : Nat} {W : Nat → Nat} {D : aD} (H : DSim f c T B n hr wn dk sd gb pc bc W D) : T 6 = nI pc := H.2.2.2.2.2.2.2.2.2.2.2.2.2.2.2.2.2.2.2.2.2.1
theorem DSim.m7 {f : Nat → Nat → Int32} {c : Nat} {T : Nat → Int32} {B : Nat → Nat → Int32} {n hr wn dk sd gb pc bc : Nat} {W : Nat → Nat} {D : aD} (H : DSim f c T B n hr wn dk sd gb pc bc W D) : T 7 = nI bc := H.2.2.2.2.2.2.2.2.2.2.2.2.2.2.2.2.2.2.2.2.2.2.1
theorem DSim.sl {f : Nat → Nat → Int32} {c : Nat} {T : Nat → Int32} {B : Nat → Nat → Int32} {n hr wn dk sd gb pc bc : Nat} {W : Nat → Nat} {D : aD} (H : DSim f c T B n hr wn dk sd gb pc bc W D) : ∀ s, s < n → f (c + 1) s = nI (dK D s) ∧ f (c + 2) s = nI (dV D s) ∧ f (c + 3) s = nI (dL D s) ∧ f (c + 4) s = nI (W s) ∧ W s ≤ 99 := H.2.2.2.2.2.2.2.2.2.2.2.2.2.2.2.2.2.2.2.2.2.2.2.1
theorem DSim.sm {f : Nat → Nat → Int32} {c : Nat} {T : Nat → Int32} {B : Nat → Nat → Int32} {n hr wn dk sd gb pc bc : Nat} {W : Nat → Nat} {D : aD} (H : DSim f c T B n hr wn dk sd gb pc bc W D) : ∀ s, s < n → B 1 s = nI (dK D s) ∧ B 2 s = nI (dV D s) ∧ B 3 s = nI (dL D s) ∧ B 4 s = nI (bt gb s) ∧ B 5 s = nI (W s) := H.2.2.2.2.2.2.2.2.2.2.2.2.2.2.2.2.2.2.2.2.2.2.2.2.1
theorem DSim.rw {f : Nat → Nat → Int32} {c : Nat} {T : Nat → Int32} {B : Nat → Nat → Int32} {n hr wn dk sd gb pc bc : Nat} {W : Nat → Nat} {D : aD} (H : DSim f c T B n hr wn dk sd gb pc bc W D) : ∀ k, k < 28 → f (c + 5) k = nI (dR D k) ∧ B 6 k = nI (dR D k) ∧ (4 * n ≤ k → dR D k = 0) := H.2.2.2.2.2.2.2.2.2.2.2.2.2.2.2.2.2.2.2.2.2.2.2.2.2.1
theorem DSim.pl {f : Nat → Nat → Int32} {c : Nat} {T : Nat → Int32} {B : Nat → Nat → Int32} {n hr wn dk sd gb pc bc : Nat} {W : Nat → Nat} {D : aD} (H : DSim f c T B n hr wn dk sd gb pc bc W D) : ∀ i, i < pc → ∃ a b, a < n ∧ b < n ∧ a ≠ b ∧ f (c + 6) i = nI a ∧ f (c + 7) i = nI b ∧ B 7 i = nI a ∧ B 8 i = nI b := H.2.2.2.2.2.2.2.2.2.2.2.2.2.2.2.2.2.2.2.2.2.2.2.2.2.2.1
theorem DSim.bk {f : Nat → Nat → Int32} {c : Nat} {T : Nat → Int32} {B : Nat → Nat → Int32} {n hr wn dk sd gb pc bc : Nat} {W : Nat → Nat} {D : aD} (H : DSim f c T B n hr wn dk sd gb pc bc W D) : ∀ i, i < bc → ∃ s x, s < n ∧ x ≤ 999 ∧ f (c + 8) i = nI s ∧ f (c + 9) i = nI x ∧ B 9 i = nI s ∧ B 10 i = nI x := H.2.2.2.2.2.2.2.2.2.2.2.2.2.2.2.2.2.2.2.2.2.2.2.2.2.2.2.1
theorem DSim.ok {f : Nat → Nat → Int32} {c : Nat} {T : Nat → Int32} {B : Nat → Nat → Int32} {n hr wn dk sd gb pc bc : Nat} {W : Nat → Nat} {D : aD} (H : DSim f c T B n hr wn dk sd gb pc bc W D) : DOK D n := H.2.2.2.2.2.2.2.2.2.2.2.2.2.2.2.2.2.2.2.2.2.2.2.2.2.2.2.2
def HSim (h : Nat) (t4 : Int32) (D : aD) (hc : Nat) (HS : Nat → aH) : Prop := (h = 52 ∧ t4 = -1 ∧ dH D = []) ∨ ∃ t, t < hc ∧ h = 78 + 4 * t ∧ t4 = nI t ∧ dH D = HS t
/-- the hills told so far -/
def HCo (f : Nat → Nat → Int32) (t : Nat) (H : aH) : Prop := WFH H ∧ H.length ≤ 10 ∧ CFL f (78 + 4 * t) 0 0 H ∧ f (78 + 4 * t) 0 = nI (ndH H) ∧ f (78 + 4 * t) 1 = nI (rpH H) ∧ MHL f t 0 H
def HCn (f : Nat → Nat → Int32) (hc : Nat) (HS : Nat → aH) : Prop := hc ≤ 6 ∧ f 17 5 = nI hc ∧ f 114 11 = nI hc ∧ (∀ t, t < hc → HCo f t (HS t)) ∧ CFL f 52 0 0 [] ∧ f 52 0 = nI 1 ∧ f 52 1 = nI 990
def nT (f : Nat → Nat → Int32) : Nat → Int32 := fun k => f 114 ([0, 1, 2, 3, 12, 37, 40, 43].getD k 0)
def nB (f : Nat → Nat → Int32) : Nat → Nat → Int32 := fun j => f ([0, 115, 116, 117, 118, 119, 120, 134, 135, 136, 137].getD j 0)
def iT (f : Nat → Nat → Int32) : Nat → Int32 := fun k => f 114 ([48, 49, 50, 51, 47, 52, 53, 54].getD k 0)
def iB (f : Nat → Nat → Int32) : Nat → Nat → Int32 := fun j => f ([0, 138, 139, 140, 141, 142, 143, 144, 145, 146, 147].getD j 0)
def IMs (f : Nat → Nat → Int32) (h2 hc : Nat) (HS : Nat → aH) : Prop := (f 17 2 = 0 ∧ f 114 46 = 0) ∨ (f 17 2 = 1 ∧ f 114 46 = 1 ∧ ∃ n hr wn dk sd gb pc bc W D, DSim f 67 (iT f) (iB f) n hr wn dk sd gb pc bc W D ∧ HSim h2 (iT f 4) D hc HS)
/-- THE TEXT -/
def XTx (f : Nat → Nat → Int32) : Prop := ∃ L, L ≤ 100 ∧ f 18 1 = nI L ∧ f 114 13 = nI L ∧ ∀ i, i < L → ∃ b, b ≤ 127 ∧ f 19 i = nI b ∧ f 121 i = nI b
def LTs (f : Nat → Nat → Int32) : Prop := ∀ k, k < 17 → f 129 k = nI ([115, 110, 111, 119, 115, 108, 117, 115, 104, 110, 101, 101, 100, 114, 111, 112, 101].getD k 0)
def XP (f : Nat → Nat → Int32) (g : Nat → Nat → Int64) (h1 h2 : Nat) (n hr wn dk sd gb pc bc : Nat) (W : Nat → Nat) (D : aD) (hc : Nat) (HS : Nat → aH) : Prop :=
  DSim f 56 (nT f) (nB f) n hr wn dk sd gb pc bc W D ∧ HSim h1 (nT f 4) D hc HS ∧ HCn f hc HS ∧ IMs f h2 hc HS ∧ TSim f g ∧ ASim f ∧ XTx f ∧ f 114 4 = -1 ∧ LTs f
theorem XP.d {f : Nat → Nat → Int32} {g : Nat → Nat → Int64} {h1 h2 : Nat} {n hr wn dk sd gb pc bc : Nat} {W : Nat → Nat} {D : aD} {hc : Nat} {HS : Nat → aH} (H : XP f g h1 h2 n hr wn dk sd gb pc bc W D hc HS) : DSim f 56 (nT f) (nB f) n hr wn dk sd gb pc bc W D := H.1
theorem XP.h {f : Nat → Nat → Int32} {g : Nat → Nat → Int64} {h1 h2 : Nat} {n hr wn dk sd gb pc bc : Nat} {W : Nat → Nat} {D : aD} {hc : Nat} {HS : Nat → aH} (H : XP f g h1 h2 n hr wn dk sd gb pc bc W D hc HS) : HSim h1 (nT f 4) D hc HS := H.2.1
theorem XP.q {f : Nat → Nat → Int32} {g : Nat → Nat → Int64} {h1 h2 : Nat} {n hr wn dk sd gb pc bc : Nat} {W : Nat → Nat} {D : aD} {hc : Nat} {HS : Nat → aH} (H : XP f g h1 h2 n hr wn dk sd gb pc bc W D hc HS) : HCn f hc HS := H.2.2.1
theorem XP.i {f : Nat → Nat → Int32} {g : Nat → Nat → Int64} {h1 h2 : Nat} {n hr wn dk sd gb pc bc : Nat} {W : Nat → Nat} {D : aD} {hc : Nat} {HS : Nat → aH} (H : XP f g h1 h2 n hr wn dk sd gb pc bc W D hc HS) : IMs f h2 hc HS := H.2.2.2.1
theorem XP.t {f : Nat → Nat → Int32} {g : Nat → Nat → Int64} {h1 h2 : Nat} {n hr wn dk sd gb pc bc : Nat} {W : Nat → Nat} {D : aD} {hc : Nat} {HS : Nat → aH} (H : XP f g h1 h2 n hr wn dk sd gb pc bc W D hc HS) : TSim f g := H.2.2.2.2.1
theorem XP.a {f : Nat → Nat → Int32} {g : Nat → Nat → Int64} {h1 h2 : Nat} {n hr wn dk sd gb pc bc : Nat} {W : Nat → Nat} {D : aD} {hc : Nat} {HS : Nat → aH} (H : XP f g h1 h2 n hr wn dk sd gb pc bc W D hc HS) : ASim f := H.2.2.2.2.2.1
theorem XP.x {f : Nat → Nat → Int32} {g : Nat → Nat → Int64} {h1 h2 : Nat} {n hr wn dk sd gb pc bc : Nat} {W : Nat → Nat} {D : aD} {hc : Nat} {HS : Nat → aH} (H : XP f g h1 h2 n hr wn dk sd gb pc bc W D hc HS) : XTx f := H.2.2.2.2.2.2.1
theorem XP.w {f : Nat → Nat → Int32} {g : Nat → Nat → Int64} {h1 h2 : Nat} {n hr wn dk sd gb pc bc : Nat} {W : Nat → Nat} {D : aD} {hc : Nat} {HS : Nat → aH} (H : XP f g h1 h2 n hr wn dk sd gb pc bc W D hc HS) : f 114 4 = -1 := H.2.2.2.2.2.2.2.1
theorem XP.l {f : Nat → Nat → Int32} {g : Nat → Nat → Int64} {h1 h2 : Nat} {n hr wn dk sd gb pc bc : Nat} {W : Nat → Nat} {D : aD} {hc : Nat} {HS : Nat → aH} (H : XP f g h1 h2 n hr wn dk sd gb pc bc W D hc HS) : LTs f := H.2.2.2.2.2.2.2.2
def XS (f : Nat → Nat → Int32) (g : Nat → Nat → Int64) (h1 h2 : Nat) : Prop := ∃ n hr wn dk sd gb pc bc W D hc HS, XP f g h1 h2 n hr wn dk sd gb pc bc W D hc HS
/-- cells that asking may change -/
def scq (q k : Nat) : Prop := q = 66 ∨ (21 ≤ q ∧ q ≤ 48) ∨ (128 = q) ∨ (130 ≤ q ∧ q ≤ 133) ∨ (q = 18 ∧ k = 2) ∨ (q = 114 ∧ (k = 14 ∨ k = 15 ∨ (24 ≤ k ∧ k ≤ 26) ∨ (32 ≤ k ∧ k ≤ 36) ∨ k = 38 ∨ k = 39))
def Fq (f f' : Nat → Nat → Int32) : Prop := ∀ q k, ¬ scq q k → f' q k = f q k
theorem Fq.refl {f : Nat → Nat → Int32} : Fq f f := fun _ _ _ => rfl
theorem Fq.trans {f f' f2 : Nat → Nat → Int32} (a : Fq f f') (b : Fq f' f2) : Fq f f2 := fun q k h => (b q k h).trans (a q k h)
theorem Sc.fq {f f' : Nat → Nat → Int32} (h : Sc f f') : Fq f f' := fun q k hq => by rw [h q (fun e => hq (Or.inl e))]
theorem Sm.fq {f f' : Nat → Nat → Int32} (h : Sm f f') : Fq f f' := fun q k hq => by rw [h q (fun e => hq (by unfold scq; omega))]
theorem Fq.u {f : Nat → Nat → Int32} {q k : Nat} {x : Int32} (h : scq q k) : Fq f (u2 f q k x) := fun a b hq => u2_nn (fun e => hq (by rw [e.1, e.2]; exact h))
theorem Fq.row {f f' : Nat → Nat → Int32} (h : Fq f f') {q : Nat} (hq : ∀ k, ¬ scq q k) : f' q = f q := funext fun k => h q k (hq k)
theorem DSim.fr {f f' : Nat → Nat → Int32} {c : Nat} {T T' : Nat → Int32} {B B' : Nat → Nat → Int32} {n hr wn dk sd gb pc bc : Nat} {W : Nat → Nat} {D : aD} (H : DSim f c T B n hr wn dk sd gb pc bc W D) (h0 : f' c = f c) (h1 : ∀ j, 1 ≤ j → j ≤ 9 → f' (c + j) = f (c + j)) (hT : ∀ k, k < 8 → T' k = T k) (hB : ∀ j, 1 ≤ j → j ≤ 10 → B' j = B j) : DSim f' c T' B' n hr wn dk sd gb pc bc W D := by
  unfold DSim at H ⊢
  rw [h0, h1 1 (by omega) (by omega), h1 2 (by omega) (by omega), h1 3 (by omega) (by omega), h1 4 (by omega) (by omega), h1 5 (by omega) (by omega), h1 6 (by omega) (by omega), h1 7 (by omega) (by omega), h1 8 (by omega) (by omega), h1 9 (by omega) (by omega), hT 0 (by omega), hT 1 (by omega), hT 2 (by omega), hT 3 (by omega), hT 5 (by omega), hT 6 (by omega), hT 7 (by omega), hB 1 (by omega) (by omega), hB 2 (by omega) (by omega), hB 3 (by omega) (by omega), hB 4 (by omega) (by omega), hB 5 (by omega) (by omega), hB 6 (by omega) (by omega), hB 7 (by omega) (by omega), hB 8 (by omega) (by omega), hB 9 (by omega) (by omega), hB 10 (by omega) (by omega)]
  exact H
theorem HCo.fr {f f' : Nat → Nat → Int32} {t : Nat} {H : aH} (h : HCo f t H) (a : ∀ q, 78 + 4 * t ≤ q → q ≤ 81 + 4 * t → f' q = f q) (b : ∀ q, 122 ≤ q ∧ q ≤ 127 → f' q = f q) : HCo f' t H := by
  obtain ⟨c1, c2, c3, c4, c5, c6⟩ := h
  refine ⟨c1, c2, cfl_fr (a _ (by omega) (by omega)) (a _ (by omega) (by omega)) (a _ (by omega) (by omega)) (a _ (by omega) (by omega)) c3, ?_, ?_, mhl_fr b c6⟩
  · rw [a _ (by omega) (by omega)]
    exact c4
  · rw [a _ (by omega) (by omega)]
    exact c5
theorem HCn.fr {f f' : Nat → Nat → Int32} {hc : Nat} {HS : Nat → aH} (H : HCn f hc HS) (a : ∀ q, (52 ≤ q ∧ q ≤ 55) ∨ (78 ≤ q ∧ q ≤ 101) ∨ (122 ≤ q ∧ q ≤ 127) → f' q = f q) (b : f' 17 5 = f 17 5) (c : f' 114 11 = f 114 11) : HCn f' hc HS := by
  obtain ⟨c1, c2, c3, c4, c5, c6, c7⟩ := H
  refine ⟨c1, by rw [b]; exact c2, by rw [c]; exact c3, fun t ht => (c4 t ht).fr (fun q h1 h2 => a q (by omega)) (fun q h => a q (by omega)), cfl_fr (a _ (by omega)) (a _ (by omega)) (a _ (by omega)) (a _ (by omega)) c5, by rw [a 52 (by omega)]; exact c6, by rw [a 52 (by omega)]; exact c7⟩
theorem IMs.fr {f f' : Nat → Nat → Int32} {h2 hc : Nat} {HS : Nat → aH} (H : IMs f h2 hc HS) (a : ∀ q, (67 ≤ q ∧ q ≤ 76) ∨ (138 ≤ q ∧ q ≤ 147) → f' q = f q) (b : f' 17 2 = f 17 2) (c : ∀ k, 46 ≤ k → k ≤ 54 → f' 114 k = f 114 k) : IMs f' h2 hc HS := by
  unfold IMs at H ⊢
  rw [b, c 46 (by omega) (by omega)]
  refine H.imp id fun H => ⟨H.1, H.2.1, ?_⟩
  obtain ⟨-, -, n, hr, wn, dk, sd, gb, pc, bc, W, D, d, s⟩ := H
  refine ⟨n, hr, wn, dk, sd, gb, pc, bc, W, D, d.fr (a 67 (by omega)) (fun j h1 h2 => a _ (by omega)) (fun k hk => ?_) (fun j h1 h2 => ?_), ?_⟩
  · rcases (show k = 0 ∨ k = 1 ∨ k = 2 ∨ k = 3 ∨ k = 4 ∨ k = 5 ∨ k = 6 ∨ k = 7 by omega) with rfl | rfl | rfl | rfl | rfl | rfl | rfl | rfl <;> exact c _ (by decide) (by decide)
  · rcases (show j = 1 ∨ j = 2 ∨ j = 3 ∨ j = 4 ∨ j = 5 ∨ j = 6 ∨ j = 7 ∨ j = 8 ∨ j = 9 ∨ j = 10 by omega) with rfl | rfl | rfl | rfl | rfl | rfl | rfl | rfl | rfl | rfl <;> exact a _ (by decide)
  · have e : iT f' 4 = iT f 4 := c 47 (by omega) (by omega)
    rw [e]
    exact s
theorem TSim.fr {f f' : Nat → Nat → Int32} {g : Nat → Nat → Int64} (H : TSim f g) (a : ∀ q, (102 ≤ q ∧ q ≤ 113) ∨ q = 149 ∨ q = 150 → f' q = f q) : TSim f' g := by
  intro t ht
  rw [a (102 + 2 * t) (by omega), a 149 (by omega), a 150 (by omega)]
  exact H t ht
theorem ASim.fr {f f' : Nat → Nat → Int32} (H : ASim f) (a : f' 49 1 = f 49 1) (b : f' 50 = f 50) (c : f' 148 = f 148) (e : f' 114 65 = f 114 65) : ASim f' := by
  unfold ASim at H ⊢
  rw [a, b, c, e]
  exact H
theorem XTx.fr {f f' : Nat → Nat → Int32} (H : XTx f) (a : f' 18 1 = f 18 1) (b : f' 19 = f 19) (c : f' 121 = f 121) (e : f' 114 13 = f 114 13) : XTx f' := by
  unfold XTx at H ⊢
  rw [a, b, c, e]
  exact H
theorem XP.fq {f : Nat → Nat → Int32} {g : Nat → Nat → Int64} {h1 h2 : Nat} {n hr wn dk sd gb pc bc : Nat} {W : Nat → Nat} {D : aD} {hc : Nat} {HS : Nat → aH} {f' : Nat → Nat → Int32} (X : XP f g h1 h2 n hr wn dk sd gb pc bc W D hc HS) (F : Fq f f') : XP f' g h1 h2 n hr wn dk sd gb pc bc W D hc HS := by
  have R : ∀ q, (∀ k, ¬ scq q k) → f' q = f q := fun q hq => F.row hq
  have M : ∀ k, ¬ scq 114 k → f' 114 k = f 114 k := fun k hk => F 114 k hk
  refine ⟨X.d.fr (R 56 (fun k => by unfold scq; omega)) (fun j h1 h2 => R _ (fun k => by unfold scq; omega)) (fun k hk => ?_) (fun j h1 h2 => ?_), ?_, X.q.fr (fun q hq => R q (fun k => by unfold scq; omega)) (F 17 5 (by unfold scq; omega)) (M 11 (by unfold scq; omega)), X.i.fr (fun q hq => R q (fun k => by unfold scq; omega)) (F 17 2 (by unfold scq; omega)) (fun k h1 h2 => M k (by unfold scq; omega)), X.t.fr (fun q hq => R q (fun k => by unfold scq; omega)), X.a.fr (F 49 1 (by unfold scq; omega)) (R 50 (fun k => by unfold scq; omega)) (R 148 (fun k => by unfold scq; omega)) (M 65 (by unfold scq; omega)), X.x.fr (F 18 1 (by unfold scq; omega)) (R 19 (fun k => by unfold scq; omega)) (R 121 (fun k => by unfold scq; omega)) (M 13 (by unfold scq; omega)), ?_, ?_⟩
  · rcases (show k = 0 ∨ k = 1 ∨ k = 2 ∨ k = 3 ∨ k = 4 ∨ k = 5 ∨ k = 6 ∨ k = 7 by omega) with rfl | rfl | rfl | rfl | rfl | rfl | rfl | rfl
    · exact M 0 (by unfold scq; omega)
    · exact M 1 (by unfold scq; omega)
    · exact M 2 (by unfold scq; omega)
    · exact M 3 (by unfold scq; omega)
    · exact M 12 (by unfold scq; omega)
    · exact M 37 (by unfold scq; omega)
    · exact M 40 (by unfold scq; omega)
    · exact M 43 (by unfold scq; omega)
  · rcases (show j = 1 ∨ j = 2 ∨ j = 3 ∨ j = 4 ∨ j = 5 ∨ j = 6 ∨ j = 7 ∨ j = 8 ∨ j = 9 ∨ j = 10 by omega) with rfl | rfl | rfl | rfl | rfl | rfl | rfl | rfl | rfl | rfl
    · exact R 115 (fun k => by unfold scq; omega)
    · exact R 116 (fun k => by unfold scq; omega)
    · exact R 117 (fun k => by unfold scq; omega)
    · exact R 118 (fun k => by unfold scq; omega)
    · exact R 119 (fun k => by unfold scq; omega)
    · exact R 120 (fun k => by unfold scq; omega)
    · exact R 134 (fun k => by unfold scq; omega)
    · exact R 135 (fun k => by unfold scq; omega)
    · exact R 136 (fun k => by unfold scq; omega)
    · exact R 137 (fun k => by unfold scq; omega)
  · have e : nT f' 4 = nT f 4 := M 12 (by unfold scq; omega)
    rw [e]
    exact X.h
  · rw [M 4 (by unfold scq; omega)]
    exact X.w
  · intro k hk
    rw [R 129 (fun k => by unfold scq; omega)]
    exact X.l k hk
theorem XP.hb {f : Nat → Nat → Int32} {g : Nat → Nat → Int64} {h1 h2 : Nat} {n hr wn dk sd gb pc bc : Nat} {W : Nat → Nat} {D : aD} {hc : Nat} {HS : Nat → aH} (X : XP f g h1 h2 n hr wn dk sd gb pc bc W D hc HS) : HOB h1 := by
  have q := X.q.1
  rcases X.h with ⟨a, -, -⟩ | ⟨t, ht, a, -, -⟩
  · exact Or.inl a
  · exact Or.inr ⟨t, by omega, a⟩
theorem XP.ce {f : Nat → Nat → Int32} {g : Nat → Nat → Int64} {h1 h2 : Nat} {n hr wn dk sd gb pc bc : Nat} {W : Nat → Nat} {D : aD} {hc : Nat} {HS : Nat → aH} (X : XP f g h1 h2 n hr wn dk sd gb pc bc W D hc HS) : CE f h1 D n := by
  have d := X.d
  have sl := d.sl
  have rw' := d.rw
  refine ⟨⟨d.ok, X.hb, fun s hs => ⟨(sl s hs).1, (sl s hs).2.1, (sl s hs).2.2.1⟩, fun k hk => (rw' k hk).1, ?_⟩, ?_, ?_⟩
  all_goals
    rcases X.h with ⟨a, -, b⟩ | ⟨t, ht, a, -, b⟩
    · rw [a, b]
      first | exact X.q.2.2.2.2.1 | exact X.q.2.2.2.2.2.1 | exact X.q.2.2.2.2.2.2
    · rw [a, b]
      obtain ⟨-, -, x3, x4, x5, -⟩ := X.q.2.2.2.1 t ht
      first | exact x3 | exact x4 | exact x5
theorem XP.me {f : Nat → Nat → Int32} {g : Nat → Nat → Int64} {h1 h2 : Nat} {n hr wn dk sd gb pc bc : Nat} {W : Nat → Nat} {D : aD} {hc : Nat} {HS : Nat → aH} (X : XP f g h1 h2 n hr wn dk sd gb pc bc W D hc HS) : ME f D n := by
  have d := X.d
  have sm := d.sm
  have rw' := d.rw
  refine ⟨d.ok, fun s hs => ⟨(sm s hs).1, (sm s hs).2.1, (sm s hs).2.2.1⟩, fun k hk => (rw' k hk).2.1, ?_⟩
  rcases X.h with ⟨-, b, a⟩ | ⟨t, ht, -, b, a⟩
  · exact Or.inl ⟨a, b⟩
  · obtain ⟨-, x2, -, -, -, x6⟩ := X.q.2.2.2.1 t ht
    have := X.q.1
    exact Or.inr ⟨t, by omega, b, by rw [a]; exact x6, by rw [a]; exact x2⟩
