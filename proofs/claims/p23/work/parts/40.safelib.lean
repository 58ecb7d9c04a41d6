/-! the pure side: what is some, and what holds of it -/
def OK {α : Type} (x : Option α) (P : α → Prop) : Prop := ∃ u, x = some u ∧ P u
theorem OK_some {α : Type} {u : α} {P : α → Prop} (h : P u) : OK (some u) P := ⟨u, rfl, h⟩
theorem OK_bd {α β : Type} {x : Option α} {k : α → Option β} {P : α → Prop} {Q : β → Prop} (hx : OK x P) (hk : ∀ u, P u → OK (k u) Q) : OK (bd x k) Q := by
  obtain ⟨u, e, h⟩ := hx
  subst e
  exact hk u h
theorem OK_lt {α β : Type} {e : α} {k : α → Option β} {Q : β → Prop} (h : ∀ v, v = e → OK (k v) Q) : OK (lt1 e k) Q := h e rfl
theorem OK_if {α : Type} {c : Prop} [Decidable c] {a b : Option α} {Q : α → Prop} (h1 : c → OK a Q) (h2 : ¬ c → OK b Q) : OK (if c then a else b) Q := by
  by_cases h : c
  · rw [if_pos h]; exact h1 h
  · rw [if_neg h]; exact h2 h
theorem OK_ck {α : Type} {c : Prop} [Decidable c] {a : Option α} {Q : α → Prop} (h : c) (h1 : OK a Q) : OK (if c then a else none) Q := by
  rw [if_pos h]; exact h1
theorem OK_mono {α : Type} {x : Option α} {P Q : α → Prop} (h : OK x P) (hq : ∀ u, P u → Q u) : OK x Q := by
  obtain ⟨u, e, p⟩ := h
  exact ⟨u, e, hq u p⟩
theorem lt32 {a b : Int32} (h : a < b) : a.toInt < b.toInt := Int32.lt_iff_toInt_lt.mp h
theorem le32 {a b : Int32} (h : a ≤ b) : a.toInt ≤ b.toInt := Int32.le_iff_toInt_le.mp h
theorem eq32 {a b : Int32} (h : a = b) : a.toInt = b.toInt := by rw [h]
theorem nlt32 {a b : Int32} (h : ¬ a < b) : b.toInt ≤ a.toInt := Int.not_lt.mp (fun q => h (Int32.lt_iff_toInt_lt.mpr q))
theorem nle32 {a b : Int32} (h : ¬ a ≤ b) : b.toInt < a.toInt := Int.not_le.mp (fun q => h (Int32.le_iff_toInt_le.mpr q))
theorem neq32 {a b : Int32} (h : ¬ a = b) : a.toInt ≠ b.toInt := fun q => h (Int32.toInt_inj.mp q)
theorem lt64 {a b : Int64} (h : a < b) : a.toInt < b.toInt := Int64.lt_iff_toInt_lt.mp h
theorem le64 {a b : Int64} (h : a ≤ b) : a.toInt ≤ b.toInt := Int64.le_iff_toInt_le.mp h
theorem eq64 {a b : Int64} (h : a = b) : a.toInt = b.toInt := by rw [h]
theorem nlt64 {a b : Int64} (h : ¬ a < b) : b.toInt ≤ a.toInt := Int.not_lt.mp (fun q => h (Int64.lt_iff_toInt_lt.mpr q))
theorem nle64 {a b : Int64} (h : ¬ a ≤ b) : b.toInt < a.toInt := Int.not_le.mp (fun q => h (Int64.le_iff_toInt_le.mpr q))
theorem neq64 {a b : Int64} (h : ¬ a = b) : a.toInt ≠ b.toInt := fun q => h (Int64.toInt_inj.mp q)
theorem of_eq32 {a b : Int32} (h : a.toInt = b.toInt) : a = b := Int32.toInt_inj.mp h
theorem of_eq64 {a b : Int64} (h : a.toInt = b.toInt) : a = b := Int64.toInt_inj.mp h
theorem rg32 (x : Int32) : -2147483648 ≤ x.toInt ∧ x.toInt ≤ 2147483647 := by
  have h1 := Int32.le_toInt x
  have h2 := Int32.toInt_lt x
  omega
theorem bm32 (z : Int) : ∃ q : Int, z.bmod (2 ^ 32) = z + q * 4294967296 := by
  unfold Int.bmod
  have e : ((2 ^ 32 : Nat) : Int) = 4294967296 := by decide
  simp only [e]
  split
  · exact ⟨-(z / 4294967296), by omega⟩
  · exact ⟨-(z / 4294967296) - 1, by omega⟩
theorem addF (x y : Int32) : ∃ q : Int, (x + y).toInt = x.toInt + y.toInt + q * 4294967296 ∧ -2147483648 ≤ (x + y).toInt ∧ (x + y).toInt ≤ 2147483647 := by
  obtain ⟨q, h⟩ := bm32 (x.toInt + y.toInt)
  exact ⟨q, by rw [Int32.toInt_add, h], rg32 _⟩
theorem subF (x y : Int32) : ∃ q : Int, (x - y).toInt = x.toInt - y.toInt + q * 4294967296 ∧ -2147483648 ≤ (x - y).toInt ∧ (x - y).toInt ≤ 2147483647 := by
  obtain ⟨q, h⟩ := bm32 (x.toInt - y.toInt)
  exact ⟨q, by rw [Int32.toInt_sub, h], rg32 _⟩
theorem mulR (x y : Int32) (k : Int) (hk : y.toInt = k) : ∃ q : Int, (x * y).toInt = x.toInt * k + q * 4294967296 ∧ -2147483648 ≤ (x * y).toInt ∧ (x * y).toInt ≤ 2147483647 := by
  obtain ⟨q, h⟩ := bm32 (x.toInt * y.toInt)
  exact ⟨q, by rw [Int32.toInt_mul, h, hk], rg32 _⟩
theorem mulL (x y : Int32) (k : Int) (hk : x.toInt = k) : ∃ q : Int, (x * y).toInt = k * y.toInt + q * 4294967296 ∧ -2147483648 ≤ (x * y).toInt ∧ (x * y).toInt ≤ 2147483647 := by
  obtain ⟨q, h⟩ := bm32 (x.toInt * y.toInt)
  exact ⟨q, by rw [Int32.toInt_mul, h, hk], rg32 _⟩
theorem addN (x y : Int32) (h1 : -2147483648 ≤ x.toInt + y.toInt) (h2 : x.toInt + y.toInt ≤ 2147483647) : (x + y).toInt = x.toInt + y.toInt := by
  obtain ⟨q, a, b, c⟩ := addF x y
  omega
theorem subN (x y : Int32) (h1 : -2147483648 ≤ x.toInt - y.toInt) (h2 : x.toInt - y.toInt ≤ 2147483647) : (x - y).toInt = x.toInt - y.toInt := by
  obtain ⟨q, a, b, c⟩ := subF x y
  omega
theorem mulRN (x y : Int32) (k : Int) (hk : y.toInt = k) (h1 : -2147483648 ≤ x.toInt * k) (h2 : x.toInt * k ≤ 2147483647) : (x * y).toInt = x.toInt * k := by
  obtain ⟨q, a, b, c⟩ := mulR x y k hk
  omega
theorem mulLN (x y : Int32) (k : Int) (hk : x.toInt = k) (h1 : -2147483648 ≤ k * y.toInt) (h2 : k * y.toInt ≤ 2147483647) : (x * y).toInt = k * y.toInt := by
  obtain ⟨q, a, b, c⟩ := mulL x y k hk
  omega
theorem lt32k {a b : Int32} {x y : Int} (ha : a.toInt = x) (hb : b.toInt = y) (h : a < b) : x < y := by
  rw [← ha, ← hb]; exact lt32 h
theorem le32k {a b : Int32} {x y : Int} (ha : a.toInt = x) (hb : b.toInt = y) (h : a ≤ b) : x ≤ y := by
  rw [← ha, ← hb]; exact le32 h
theorem eq32k {a b : Int32} {x y : Int} (ha : a.toInt = x) (hb : b.toInt = y) (h : a = b) : x = y := by
  rw [← ha, ← hb]; exact eq32 h
theorem nlt32k {a b : Int32} {x y : Int} (ha : a.toInt = x) (hb : b.toInt = y) (h : ¬ a < b) : y ≤ x := by
  rw [← ha, ← hb]; exact nlt32 h
theorem nle32k {a b : Int32} {x y : Int} (ha : a.toInt = x) (hb : b.toInt = y) (h : ¬ a ≤ b) : y < x := by
  rw [← ha, ← hb]; exact nle32 h
theorem neq32k {a b : Int32} {x y : Int} (ha : a.toInt = x) (hb : b.toInt = y) (h : ¬ a = b) : x ≠ y := by
  rw [← ha, ← hb]; exact neq32 h
theorem lt64k {a b : Int64} {x y : Int} (ha : a.toInt = x) (hb : b.toInt = y) (h : a < b) : x < y := by
  rw [← ha, ← hb]; exact lt64 h
theorem le64k {a b : Int64} {x y : Int} (ha : a.toInt = x) (hb : b.toInt = y) (h : a ≤ b) : x ≤ y := by
  rw [← ha, ← hb]; exact le64 h
theorem eq64k {a b : Int64} {x y : Int} (ha : a.toInt = x) (hb : b.toInt = y) (h : a = b) : x = y := by
  rw [← ha, ← hb]; exact eq64 h
theorem nlt64k {a b : Int64} {x y : Int} (ha : a.toInt = x) (hb : b.toInt = y) (h : ¬ a < b) : y ≤ x := by
  rw [← ha, ← hb]; exact nlt64 h
theorem nle64k {a b : Int64} {x y : Int} (ha : a.toInt = x) (hb : b.toInt = y) (h : ¬ a ≤ b) : y < x := by
  rw [← ha, ← hb]; exact nle64 h
theorem neq64k {a b : Int64} {x y : Int} (ha : a.toInt = x) (hb : b.toInt = y) (h : ¬ a = b) : x ≠ y := by
  rw [← ha, ← hb]; exact neq64 h
theorem addK (x y : Int32) (k : Int) (hk : y.toInt = k) (h1 : -2147483648 ≤ x.toInt + k) (h2 : x.toInt + k ≤ 2147483647) : (x + y).toInt = x.toInt + k := by
  rw [← hk] at h1 h2 ⊢; exact addN x y h1 h2
theorem addKL (x y : Int32) (k : Int) (hk : x.toInt = k) (h1 : -2147483648 ≤ k + y.toInt) (h2 : k + y.toInt ≤ 2147483647) : (x + y).toInt = k + y.toInt := by
  rw [← hk] at h1 h2 ⊢; exact addN x y h1 h2
theorem subK (x y : Int32) (k : Int) (hk : y.toInt = k) (h1 : -2147483648 ≤ x.toInt - k) (h2 : x.toInt - k ≤ 2147483647) : (x - y).toInt = x.toInt - k := by
  rw [← hk] at h1 h2 ⊢; exact subN x y h1 h2
theorem subKL (x y : Int32) (k : Int) (hk : x.toInt = k) (h1 : -2147483648 ≤ k - y.toInt) (h2 : k - y.toInt ≤ 2147483647) : (x - y).toInt = k - y.toInt := by
  rw [← hk] at h1 h2 ⊢; exact subN x y h1 h2
theorem ckI {e : Int32} {N : Nat} (h0 : 0 ≤ e.toInt) (h1 : e.toInt < (N : Int)) : ¬ (e < 0 ∨ N ≤ e.toNatClampNeg) := vp_in_iff.mpr ⟨h0, h1⟩
theorem tnF (e : Int32) : (0 ≤ e.toInt ∧ (e.toNatClampNeg : Int) = e.toInt) ∨ (e.toInt < 0 ∧ e.toNatClampNeg = 0) := by
  have h : e.toNatClampNeg = e.toInt.toNat := rfl
  omega
theorem tnP (e : Int32) (h : 0 ≤ e.toInt) : (e.toNatClampNeg : Int) = e.toInt := by
  have h2 : e.toNatClampNeg = e.toInt.toNat := rfl
  omega
theorem lgT (x y : Int64) : (x.toInt < y.toInt ∧ (lg_cmp x y).toInt = -1) ∨ (x.toInt = y.toInt ∧ (lg_cmp x y).toInt = 0) ∨ (y.toInt < x.toInt ∧ (lg_cmp x y).toInt = 1) := by
  unfold lg_cmp
  by_cases h : x > y
  · rw [if_pos h]; exact Or.inr (Or.inr ⟨lt64 h, by decide⟩)
  · rw [if_neg h]
    by_cases q : x = y
    · rw [if_pos q]; exact Or.inr (Or.inl ⟨by rw [q], by decide⟩)
    · rw [if_neg q]
      have a := nlt64 h
      have b := neq64 q
      exact Or.inl ⟨by omega, by decide⟩
theorem updF {f g : Nat → Int32} {k : Nat} {v : Int32} (h : f = upd g k v) (i : Nat) : (i = k ∧ (f i).toInt = v.toInt) ∨ (i ≠ k ∧ (f i).toInt = (g i).toInt) := by
  subst h
  unfold upd
  by_cases q : i = k
  · rw [if_pos q]; exact Or.inl ⟨q, rfl⟩
  · rw [if_neg q]; exact Or.inr ⟨q, rfl⟩
theorem cpyF {f s g : Nat → Int32} {sp dp n : Nat} (h : f = va_cpy s g sp dp n) (i : Nat) : (dp ≤ i ∧ i < dp + n ∧ (f i).toInt = (s (sp + (i - dp))).toInt) ∨ ((i < dp ∨ dp + n ≤ i) ∧ (f i).toInt = (g i).toInt) := by
  subst h
  by_cases q : dp ≤ i ∧ i < dp + n
  · left; rw [pk_cpy_in q.1 q.2]; exact ⟨q.1, q.2, rfl⟩
  · right
    have q2 : i < dp ∨ dp + n ≤ i := by omega
    rw [pk_cpy_out q2]; exact ⟨q2, rfl⟩
theorem andF (x m : Int32) (k : Nat) (hm : m.toBitVec.toNat = 2 ^ k - 1) (hk : k ≤ 30) : 0 ≤ (x &&& m).toInt ∧ (x &&& m).toInt < 2 ^ k := by
  obtain ⟨j, hj, e⟩ := pk_andE x k hm
  have h2 : (2 : Nat) ^ k ≤ 2 ^ 30 := Nat.pow_le_pow_right (by decide) hk
  have h3 : (2 : Nat) ^ 30 < 2 ^ 31 := by decide
  rw [e, nI_toInt (by omega)]
  constructor
  · omega
  · exact_mod_cast hj
theorem ofNF (k : Nat) (h : k < 2147483648) : (Int32.ofNat k).toInt = (k : Int) := nI_toInt (by omega)
theorem iteF {c : Prop} [Decidable c] (a b : Int32) : (c ∧ (if c then a else b).toInt = a.toInt) ∨ (¬ c ∧ (if c then a else b).toInt = b.toInt) := by
  by_cases h : c
  · rw [if_pos h]; exact Or.inl ⟨h, rfl⟩
  · rw [if_neg h]; exact Or.inr ⟨h, rfl⟩
theorem sh_d : ∀ k, k < 6 → ((1 : Int32) <<< (nI k &&& 31)).toInt = (2 ^ k : Nat) := by decide +kernel
theorem shlF (z : Int32) (h0 : 0 ≤ z.toInt) (h5 : z.toInt ≤ 5) : 1 ≤ ((1 : Int32) <<< (z &&& 31)).toInt ∧ ((1 : Int32) <<< (z &&& 31)).toInt ≤ 32 := by
  obtain ⟨k, hk, rfl⟩ := nI_of (x := z) (fun q => by have q2 := lt32 q; rw [show (0 : Int32).toInt = 0 by decide] at q2; omega)
  rw [nI_toInt hk] at h0 h5
  have e := sh_d k (by omega)
  rw [e]
  rcases (show k = 0 ∨ k = 1 ∨ k = 2 ∨ k = 3 ∨ k = 4 ∨ k = 5 by omega) with rfl | rfl | rfl | rfl | rfl | rfl <;> decide
theorem cof_d : ∀ u, u < 6 → ∀ r, r < u → 0 ≤ (((1 : Int32) <<< (nI u &&& 31)) - 1 - ((1 : Int32) <<< (nI r &&& 31))).toInt ∧ (((1 : Int32) <<< (nI u &&& 31)) - 1 - ((1 : Int32) <<< (nI r &&& 31))).toInt < 32 := by decide +kernel
theorem cofF (u r : Int32) (h0 : 0 ≤ r.toInt) (h1 : r.toInt < u.toInt) (h5 : u.toInt ≤ 5) : 0 ≤ (((1 : Int32) <<< (u &&& 31)) - 1 - ((1 : Int32) <<< (r &&& 31))).toInt ∧ (((1 : Int32) <<< (u &&& 31)) - 1 - ((1 : Int32) <<< (r &&& 31))).toInt < 32 := by
  obtain ⟨k, hk, rfl⟩ := nI_of (x := r) (fun q => by have q2 := lt32 q; rw [show (0 : Int32).toInt = 0 by decide] at q2; omega)
  obtain ⟨a, ha, rfl⟩ := nI_of (x := u) (fun q => by have q2 := lt32 q; rw [show (0 : Int32).toInt = 0 by decide] at q2; omega)
  rw [nI_toInt hk, nI_toInt ha] at h1
  rw [nI_toInt ha] at h5
  exact cof_d a (by omega) k (by omega)
theorem bit_d : ∀ a, a < 32 → ∀ b, b < 5 → (¬ (nI a &&& ((1 : Int32) <<< (nI b &&& 31))) = 0) → ((1 : Int32) <<< (nI b &&& 31)).toInt ≤ (nI a).toInt ∧ 1 ≤ ((1 : Int32) <<< (nI b &&& 31)).toInt := by decide +kernel
theorem bitF (x t z : Int32) (ht : t = (1 : Int32) <<< (z &&& 31)) (h0 : 0 ≤ x.toInt) (h1 : x.toInt < 32) (hz0 : 0 ≤ z.toInt) (hz : z.toInt ≤ 4) (h : ¬ (x &&& t) = 0) : t.toInt ≤ x.toInt ∧ 1 ≤ t.toInt := by
  subst ht
  obtain ⟨k, hk, rfl⟩ := nI_of (x := z) (fun q => by have q2 := lt32 q; rw [show (0 : Int32).toInt = 0 by decide] at q2; omega)
  obtain ⟨a, ha, rfl⟩ := nI_of (x := x) (fun q => by have q2 := lt32 q; rw [show (0 : Int32).toInt = 0 by decide] at q2; omega)
  rw [nI_toInt hk] at hz
  have h2 := h1
  rw [nI_toInt ha] at h2
  exact bit_d a (by omega) k (by omega) h
/-- an equation that omega does not see -/
def HQ (a b : Int) : Prop := a = b
theorem HQ.mk {a b : Int} (h : a = b) : HQ a b := h
theorem HQ.out {a b : Int} (h : HQ a b) : a = b := h
theorem HQ.any (a : Int) : ∃ y : Int, HQ a y := ⟨a, rfl⟩
def HP (P : Prop) : Prop := P
def HN (a b : Nat) : Prop := a = b
theorem HN.out {a b : Nat} (h : HN a b) : a = b := h
theorem addV {a b : Int32} {x y : Int} (ha : a.toInt = x) (hb : b.toInt = y) (h1 : -2147483648 ≤ x + y) (h2 : x + y ≤ 2147483647) : (a + b).toInt = x + y := by
  subst ha; subst hb; exact addN a b h1 h2
theorem subV {a b : Int32} {x y : Int} (ha : a.toInt = x) (hb : b.toInt = y) (h1 : -2147483648 ≤ x - y) (h2 : x - y ≤ 2147483647) : (a - b).toInt = x - y := by
  subst ha; subst hb; exact subN a b h1 h2
theorem mulV {a b : Int32} {x y : Int} (ha : a.toInt = x) (hb : b.toInt = y) (h1 : -2147483648 ≤ x * y) (h2 : x * y ≤ 2147483647) : (a * b).toInt = x * y := by
  subst ha; exact mulRN a b y hb h1 h2
theorem ckV {e : Int32} {x : Int} {N : Nat} (h : e.toInt = x) (h0 : 0 ≤ x) (h1 : x < (N : Int)) : ¬ (e < 0 ∨ N ≤ e.toNatClampNeg) := by
  subst h; exact ckI h0 h1
theorem neV32 {e : Int32} {x : Int} (h : e.toInt = x) (h0 : x ≠ 0) : ¬ e = 0 := fun q => h0 (by rw [← h, q]; decide)
theorem neV64 {e : Int64} {x : Int} (h : e.toInt = x) (h0 : x ≠ 0) : ¬ e = 0 := fun q => h0 (by rw [← h, q]; decide)
theorem tnV {e : Int32} {x : Int} (h : e.toInt = x) (h0 : 0 ≤ x) : ∃ m : Nat, HN e.toNatClampNeg m ∧ (m : Int) = x := ⟨e.toNatClampNeg, rfl, by subst h; exact tnP e h0⟩
theorem lgV {a b : Int64} {x y : Int} (ha : a.toInt = x) (hb : b.toInt = y) : ∃ t : Int, HQ (lg_cmp a b).toInt t ∧ ((x < y ∧ t = -1) ∨ (x = y ∧ t = 0) ∨ (y < x ∧ t = 1)) := by
  subst ha; subst hb; exact ⟨_, rfl, lgT a b⟩
theorem andV (x m : Int32) (k : Nat) (hm : m.toBitVec.toNat = 2 ^ k - 1) (hk : k ≤ 30) : ∃ t : Int, HQ (x &&& m).toInt t ∧ 0 ≤ t ∧ t < 2 ^ k := ⟨_, rfl, andF x m k hm hk⟩
theorem shlV (z : Int32) (h0 : 0 ≤ z.toInt) (h5 : z.toInt ≤ 5) : ∃ t : Int, HQ ((1 : Int32) <<< (z &&& 31)).toInt t ∧ 1 ≤ t ∧ t ≤ 32 := ⟨_, rfl, shlF z h0 h5⟩
theorem cofV (u r : Int32) (h0 : 0 ≤ r.toInt) (h1 : r.toInt < u.toInt) (h5 : u.toInt ≤ 5) : ∃ t : Int, HQ (((1 : Int32) <<< (u &&& 31)) - 1 - ((1 : Int32) <<< (r &&& 31))).toInt t ∧ 0 ≤ t ∧ t < 32 := ⟨_, rfl, cofF u r h0 h1 h5⟩
theorem updW {f g : Nat → Int32} {k : Nat} {v : Int32} {x : Int} (h : f = upd g k v) (hv : v.toInt = x) (i : Nat) : (i = k ∧ (f i).toInt = x) ∨ (i ≠ k ∧ (f i).toInt = (g i).toInt) := by
  subst hv; exact updF h i
theorem iteVlt {a b p q : Int32} {xa xb xp xq : Int} (ha : a.toInt = xa) (hb : b.toInt = xb) (hp : p.toInt = xp) (hq : q.toInt = xq) : ∃ t : Int, HQ (if a < b then p else q).toInt t ∧ ((xa < xb ∧ t = xp) ∨ (xb ≤ xa ∧ t = xq)) := by
  subst ha; subst hb; subst hp; subst hq
  refine ⟨_, rfl, ?_⟩
  by_cases h : a < b
  · rw [if_pos h]; exact Or.inl ⟨lt32 h, rfl⟩
  · rw [if_neg h]; exact Or.inr ⟨nlt32 h, rfl⟩
theorem mul3V {a b : Int32} {x y : Int} (ha : a.toInt = x) (hb : b.toInt = y) (h1 : 0 ≤ x) (h2 : x ≤ 100000) (h3 : 1 ≤ y) (h4 : y ≤ 3) : ∃ t : Int, HQ (a * b).toInt t ∧ ((y = 1 ∧ t = x) ∨ (y = 2 ∧ t = 2 * x) ∨ (y = 3 ∧ t = 3 * x)) := by
  rcases (show y = 1 ∨ y = 2 ∨ y = 3 by omega) with rfl | rfl | rfl
  · exact ⟨_, rfl, Or.inl ⟨rfl, by rw [mulV ha hb (by omega) (by omega)]; omega⟩⟩
  · exact ⟨_, rfl, Or.inr (Or.inl ⟨rfl, by rw [mulV ha hb (by omega) (by omega)]; omega⟩)⟩
  · exact ⟨_, rfl, Or.inr (Or.inr ⟨rfl, by rw [mulV ha hb (by omega) (by omega)]; omega⟩)⟩
theorem iteVle {a b p q : Int32} {xa xb xp xq : Int} (ha : a.toInt = xa) (hb : b.toInt = xb) (hp : p.toInt = xp) (hq : q.toInt = xq) : ∃ t : Int, HQ (if a ≤ b then p else q).toInt t ∧ ((xa ≤ xb ∧ t = xp) ∨ (xb < xa ∧ t = xq)) := by
  subst ha; subst hb; subst hp; subst hq
  refine ⟨_, rfl, ?_⟩
  by_cases h : a ≤ b
  · rw [if_pos h]; exact Or.inl ⟨le32 h, rfl⟩
  · rw [if_neg h]; exact Or.inr ⟨nle32 h, rfl⟩
theorem digV {a b : Int32} {x y : Int} (ha : a.toInt = x) (hb : b.toInt = y) : ∃ t : Int, HQ ((a * 10) + (b - 48)).toInt t ∧ ((48 ≤ y ∧ y ≤ 57 ∧ 0 ≤ x ∧ x ≤ 99999) → t = 10 * x + (y - 48)) := by
  refine ⟨_, rfl, fun h => ?_⟩
  have e1 : (a * 10).toInt = x * 10 := mulV ha (by decide) (by omega) (by omega)
  have e2 : (b - 48).toInt = y - 48 := subV hb (by decide) (by omega) (by omega)
  rw [addV e1 e2 (by omega) (by omega)]
  omega
theorem congAt (f : Nat → Int32) (i m : Nat) : i = m → (f i).toInt = (f m).toInt := fun h => by rw [h]
theorem addC {a b : Int32} {x y : Int} (ha : a.toInt = x) (hb : b.toInt = y) : ∃ t : Int, HQ (a + b).toInt t ∧ ((-2147483648 ≤ x + y ∧ x + y ≤ 2147483647) → t = x + y) := ⟨_, rfl, fun h => addV ha hb h.1 h.2⟩
theorem subC {a b : Int32} {x y : Int} (ha : a.toInt = x) (hb : b.toInt = y) : ∃ t : Int, HQ (a - b).toInt t ∧ ((-2147483648 ≤ x - y ∧ x - y ≤ 2147483647) → t = x - y) := ⟨_, rfl, fun h => subV ha hb h.1 h.2⟩
theorem div3V {a b : Int32} {x y : Int} (ha : a.toInt = x) (hb : b.toInt = y) (h1 : 0 ≤ x) (h2 : x ≤ 2147483647) (h3 : 1 ≤ y) (h4 : y ≤ 3) : ∃ t : Int, HQ (a / b).toInt t ∧ 0 ≤ t ∧ t ≤ x ∧ y * t ≤ x ∧ x < y * t + y := by
  have e : (a / b).toInt = (a.toInt.tdiv b.toInt).bmod (2 ^ 32) := Int32.toInt_div a b
  have e2 : x.tdiv y = x / y := Int.tdiv_eq_ediv_of_nonneg h1
  rw [ha, hb, e2] at e
  obtain ⟨q, hq⟩ := bm32 (x / y)
  have r := rg32 (a / b)
  refine ⟨x / y, ?_, ?_⟩
  · show (a / b).toInt = x / y
    rcases (show y = 1 ∨ y = 2 ∨ y = 3 by omega) with rfl | rfl | rfl <;> omega
  · rcases (show y = 1 ∨ y = 2 ∨ y = 3 by omega) with rfl | rfl | rfl <;> omega
theorem rem3V {a b : Int32} {x y : Int} (ha : a.toInt = x) (hb : b.toInt = y) (h1 : 0 ≤ x) (h2 : x ≤ 2147483647) (h3 : 1 ≤ y) (h4 : y ≤ 3) : ∃ t : Int, HQ (a - (a / b) * b).toInt t ∧ 0 ≤ t ∧ t < y := by
  obtain ⟨d, hd, d0, d1, d2, d3⟩ := div3V ha hb h1 h2 h3 h4
  have e1 : (a / b * b).toInt = d * y := by
    rcases (show y = 1 ∨ y = 2 ∨ y = 3 by omega) with rfl | rfl | rfl <;> exact mulV hd.out hb (by omega) (by omega)
  have e2 : (a - (a / b) * b).toInt = x - d * y := by
    rcases (show y = 1 ∨ y = 2 ∨ y = 3 by omega) with rfl | rfl | rfl <;> exact subV ha e1 (by omega) (by omega)
  refine ⟨x - d * y, e2, ?_⟩
  rcases (show y = 1 ∨ y = 2 ∨ y = 3 by omega) with rfl | rfl | rfl <;> omega
/-- the sign at a place of the text -/
def sgv (size : Int32) (text : Nat → Int32) (k : Int) : Int := if size.toInt ≤ k then 0 else ((text k.toNat) &&& 255).toInt
theorem sgv_hi {size z : Int32} {text : Nat → Int32} (h : size ≤ z) : (0 : Int32).toInt = sgv size text z.toInt := by
  unfold sgv
  rw [if_pos (le32 h)]; decide
theorem sgv_lo {size z : Int32} {text : Nat → Int32} (h : ¬ size ≤ z) : ((text z.toNatClampNeg) &&& 255).toInt = sgv size text z.toInt := by
  unfold sgv
  rw [if_neg (by have := nle32 h; omega)]; rfl
theorem sgv_c (size : Int32) (text : Nat → Int32) {a b : Int} : a = b → sgv size text a = sgv size text b := fun h => by rw [h]
/-- how often a name stands among the first -/
def cnt (f : Nat → Int64) : Nat → Int64 → Nat
  | 0, _ => 0
  | m + 1, v => cnt f m v + (if f m = v then 1 else 0)
theorem cnt_mono (f : Nat → Int64) (v : Int64) : ∀ {a b : Nat}, a ≤ b → cnt f a v ≤ cnt f b v := by
  intro a b h
  induction h with
  | refl => exact Nat.le_refl _
  | step h ih => exact Nat.le_trans ih (Nat.le_add_right _ _)
theorem cnt_eq (f g : Nat → Int64) (v : Int64) : ∀ (m : Nat), (∀ i, i < m → f i = g i) → cnt f m v = cnt g m v := by
  intro m
  induction m with
  | zero => intro _; rfl
  | succ m ih =>
    intro h
    show cnt f m v + _ = cnt g m v + _
    rw [ih (fun i hi => h i (by omega)), h m (by omega)]
theorem cnt_hit (f : Nat → Int64) (m : Nat) (v : Int64) (h : f m = v) : cnt f (m + 1) v = cnt f m v + 1 := by
  show cnt f m v + _ = _
  rw [if_pos h]
theorem cnt_miss (f : Nat → Int64) (m : Nat) (v : Int64) (h : ¬ f m = v) : cnt f (m + 1) v = cnt f m v := by
  show cnt f m v + _ = _
  rw [if_neg h]; rfl
def SetsOK (f : Nat → Int64) (m : Int) : Prop := ∀ v, cnt f m.toNat v ≤ 3
theorem SetsOK_upd {f : Nat → Int64} {m : Int} {v : Int64} {k : Nat} {g : Nat → Int64} (h0 : 0 ≤ m) (hk : k = m.toNat) (hg : g = vp_updL f k v) (h : SetsOK f m) (h2 : cnt f m.toNat v ≤ 2) : SetsOK g (m + 1) := by
  intro w
  have e : (m + 1).toNat = m.toNat + 1 := by omega
  have e2 : cnt g m.toNat w = cnt f m.toNat w := by
    apply cnt_eq
    intro i hi
    subst hg
    unfold vp_updL
    rw [if_neg (by omega)]
  have e3 : g m.toNat = v := by
    subst hg
    unfold vp_updL
    rw [if_pos hk.symm]
  rw [e]
  by_cases q : v = w
  · subst q
    rw [cnt_hit _ _ _ e3, e2]; omega
  · rw [cnt_miss _ _ _ (by rw [e3]; exact q), e2]; exact h w
theorem tnc {e : Int32} (h : 0 ≤ e.toInt) : e.toNatClampNeg = e.toInt.toNat := rfl
theorem lg0 {x y : Int64} (h : lg_cmp x y = 0) : x = y := by
  have t := lgT x y
  have e : (lg_cmp x y).toInt = 0 := by rw [h]; decide
  exact Int64.toInt_inj.mp (by omega)
theorem lgn {x y : Int64} (h : ¬ lg_cmp x y = 0) : ¬ x = y := by
  intro q
  subst q
  apply h
  have t := lgT x x
  apply Int32.toInt_inj.mp
  rw [show (0 : Int32).toInt = 0 by decide]
  omega
