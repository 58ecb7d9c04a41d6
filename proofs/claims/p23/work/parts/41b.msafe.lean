theorem unf {f : Nat → Int64} {x4 x1 z1 : Int32} {x2 z2 : Int64} (h : f x4.toNatClampNeg = x2) (hz : x2 = z2) (h1 : x1.toInt = z1.toInt) (h2 : 5 * x1.toInt ≤ x4.toInt) (h3 : x4.toInt ≤ 5 * x1.toInt + 5) (h4 : 0 ≤ z1.toInt) (h5 : z1.toInt ≤ 1) : f (5 * z1.toInt + (x4 - (5 * x1)).toInt).toNat = z2 := by
  have e1 : ((5 : Int32) * x1).toInt = 5 * x1.toInt := mulV (by decide) rfl (by omega) (by omega)
  have e2 : (x4 - (5 * x1)).toInt = x4.toInt - 5 * x1.toInt := subV rfl e1 (by omega) (by omega)
  have e3 : (5 * z1.toInt + (x4 - (5 * x1)).toInt).toNat = x4.toNatClampNeg := by
    rw [tnc (by omega), e2]; omega
  rw [e3, h, hz]
theorem rs_hit {P : Prop} {f : Nat → Int64} {x1 x2 : Int32} {v : Int64} (h : P → x1.toInt = ((cnt f x2.toInt.toNat v : Nat) : Int)) (hh : f x2.toNatClampNeg = v) : P → x1.toInt + ((1 : Int32)).toInt = ((cnt f (x2.toInt.toNat + 1) v : Nat) : Int) := by
  intro p
  rw [cnt_hit f x2.toInt.toNat v hh, h p, show ((1 : Int32)).toInt = 1 by decide]
  omega
theorem rs_miss {P : Prop} {f : Nat → Int64} {x1 x2 : Int32} {v : Int64} (h : P → x1.toInt = ((cnt f x2.toInt.toNat v : Nat) : Int)) (hh : ¬ f x2.toNatClampNeg = v) : P → x1.toInt = ((cnt f (x2.toInt.toNat + 1) v : Nat) : Int) := by
  intro p
  rw [cnt_miss f x2.toInt.toNat v hh, h p]
theorem rs_next {P : Prop} {f : Nat → Int64} {a b x x' r : Int32} {v : Int64} (h : P → a.toInt + b.toInt = ((cnt f (x.toInt.toNat + 1) v : Nat) : Int)) (h1 : r.toInt = a.toInt + b.toInt) (h2 : x'.toInt = x.toInt + 1) (h0 : 0 ≤ x.toInt) : P → r.toInt = ((cnt f x'.toInt.toNat v : Nat) : Int) := by
  intro p
  rw [h1, h p, show x'.toInt.toNat = x.toInt.toNat + 1 by omega]
theorem rs_two {f : Nat → Int64} {x1 x2 : Int32} {m : Int} {v : Int64} (q : x1.toInt = ((cnt f x2.toInt.toNat v : Nat) : Int)) (q2 : cnt f m.toNat v ≤ 3) (h : x2.toInt = m) (h3 : x1.toInt ≠ 3) : cnt f m.toNat v ≤ 2 := by
  rw [h] at q
  omega
theorem jn_sl {sm : Nat → Int32} {sn un : Nat → Int64} {rb x1 r sets gU : Int} (hc : ∀ w : Nat, (w : Int) < gU → (sm ((5 * rb).toNat + w)).toInt ≤ ((cnt sn x1.toNat (un ((5 * rb).toNat + w)) : Nat) : Int)) (hs : SetsOK sn sets) (hn : un (5 * rb + r).toNat = sn x1.toNat) (h1 : 0 ≤ rb) (h2 : 0 ≤ r) (h3 : r < gU) (h4 : 0 ≤ x1) (h5 : x1 < sets) : ∀ i : Nat, (i : Int) = 5 * rb + r → (sm i).toInt ≤ 2 := by
  intro i hi
  have a := hc r.toNat (by omega)
  have e1 : (5 * rb).toNat + r.toNat = i := by omega
  have e2 : (5 * rb + r).toNat = i := by omega
  rw [e1] at a
  rw [e2] at hn
  rw [hn] at a
  have b := hs (sn x1.toNat)
  have c := cnt_mono sn (sn x1.toNat) (a := x1.toNat + 1) (b := sets.toNat) (by omega)
  rw [cnt_hit sn x1.toNat _ rfl] at c
  omega
theorem jn_cm {P : Prop} {sm sm' : Nat → Int32} {sn un : Nat → Int64} {rb x1 x2 gU : Int} {k : Nat} {v : Int32} (hc : ∀ w : Nat, (w : Int) < gU → (sm ((5 * rb).toNat + w)).toInt ≤ ((cnt sn x1.toNat (un ((5 * rb).toNat + w)) : Nat) : Int)) (hu : un x2.toNat = sn x1.toNat) (he : sm' = upd sm k v) (hk : (k : Int) = x2) (hv : v.toInt = (sm k).toInt + 1) : P → ∀ w : Nat, (w : Int) < gU → (sm' ((5 * rb).toNat + w)).toInt ≤ ((cnt sn (x1.toNat + 1) (un ((5 * rb).toNat + w)) : Nat) : Int) := by
  intro _ w hw
  have a := hc w hw
  rcases updF he ((5 * rb).toNat + w) with ⟨q, e⟩ | ⟨q, e⟩
  · rw [e, hv]
    rw [q] at a ⊢
    have e2 : x2.toNat = k := by omega
    rw [e2] at hu
    rw [cnt_hit sn _ _ hu.symm]
    omega
  · rw [e]
    have c := cnt_mono sn (un ((5 * rb).toNat + w)) (Nat.le_succ x1.toNat)
    have c2 : cnt sn x1.toNat (un ((5 * rb).toNat + w)) ≤ cnt sn (x1.toNat + 1) (un ((5 * rb).toNat + w)) := c
    omega
theorem pv_of {f : Nat → Int64} {x6 x5 : Int32} (h : ¬ lg_cmp (f ((10 * x6) + x5).toNatClampNeg) 0 = 0) (h0 : 0 ≤ x6.toInt) (h1 : x6.toInt ≤ 4) (h2 : 0 ≤ x5.toInt) (h3 : x5.toInt ≤ 4) : (f (10 * x6.toInt + x5.toInt).toNat).toInt ≠ 0 := by
  have e1 : ((10 : Int32) * x6).toInt = 10 * x6.toInt := mulV (by decide) rfl (by omega) (by omega)
  have e2 : ((10 * x6) + x5).toInt = 10 * x6.toInt + x5.toInt := addV e1 rfl (by omega) (by omega)
  have e3 : ((10 * x6) + x5).toNatClampNeg = (10 * x6.toInt + x5.toInt).toNat := by rw [tnc (by omega), e2]
  rw [e3] at h
  intro q
  exact lgn h (Int64.toInt_inj.mp (by rw [q]; decide))
theorem pw_same {f : Nat → Int64} {a b : Int} (h : (f (10 * a + b).toNat).toInt ≠ 0) (e : a = b) : (f (11 * b).toNat).toInt ≠ 0 := by
  rw [show 11 * b = 10 * a + b by omega]; exact h
theorem pw_ch {x y : Int} (h : x ≠ 0) (e : y = x) : y ≠ 0 := by rw [e]; exact h
theorem pw_at {f : Nat → Int64} {x5 : Int32} (h : (f (11 * x5.toInt).toNat).toInt ≠ 0) (h2 : 0 ≤ x5.toInt) (h3 : x5.toInt ≤ 4) : (f ((10 * x5) + x5).toNatClampNeg).toInt ≠ 0 := by
  have e1 : ((10 : Int32) * x5).toInt = 10 * x5.toInt := mulV (by decide) rfl (by omega) (by omega)
  have e2 : ((10 * x5) + x5).toInt = 10 * x5.toInt + x5.toInt := addV e1 rfl (by omega) (by omega)
  have e3 : ((10 * x5) + x5).toNatClampNeg = (11 * x5.toInt).toNat := by rw [tnc (by omega), e2]; omega
  rw [e3]; exact h
theorem updL_ne {f g : Nat → Int64} {k : Nat} {v : Int64} (h : f = vp_updL g k v) {i : Nat} (hi : i ≠ k) : f i = g i := by
  subst h; unfold vp_updL; rw [if_neg hi]
theorem updL_eq {f g : Nat → Int64} {k : Nat} {v : Int64} (h : f = vp_updL g k v) {i : Nat} (hi : i = k) : f i = v := by
  subst h; unfold vp_updL; rw [if_pos hi]
theorem rows_at {f : Nat → Int64} {e : Int32} {x : Int64} {y : Int} (h : x = f e.toNatClampNeg) (he : e.toInt = y) : x = f y.toNat := by
  subst he; exact h
