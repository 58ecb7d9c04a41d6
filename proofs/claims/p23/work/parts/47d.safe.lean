set_option maxHeartbeats 2000000 in
theorem sFX7_readGrade_156 (n : Nat) (hn : n = 2200000000) (v_size : Int32) (v_rb : Int32) (a_text : Nat → Int32) (gG : Int) (k116 : Int32 → Int32 → Int32 → Int32 → Int32 → Int32 → Int64 → (Nat → Int32) → (Nat → Int32) → (Nat → Int32) → (Nat → Int32) → Int32 → Int32 → Int32 → Int32 → Int32 → Option (Unit × Int32 × Int32 × Int32 × Int32 × Int32 × Int32 × Int64 × (Nat → Int32) × (Nat → Int32) × (Nat → Int32) × (Nat → Int32))) (mB116 : Nat) (hk116 : ∀ (v_faultKind : Int32) (v_faultPlace : Int32) (v_at : Int32) (v_end : Int32) (v_token : Int32) (v_number : Int32) (v_name : Int64) (a_gradeMany : Nat → Int32) (a_gKind : Nat → Int32) (a_gPurity : Nat → Int32) (a_gPrice : Nat → Int32) (x1 : Int32) (x2 : Int32) (x3 : Int32) (x4 : Int32) (x5 : Int32), ((v_size).toInt ≤ 1200) → (0 ≤ (v_at).toInt) → ((v_at).toInt ≤ (v_end).toInt) → ((v_end).toInt ≤ (v_size).toInt) → ((v_token).toInt ≠ 0 → (v_at).toInt < (v_end).toInt) → ((v_token).toInt = 4 → (0 ≤ (v_number).toInt ∧ (v_number).toInt ≤ 99999)) → ((v_token).toInt = 4 → (sgv v_size a_text (v_end).toInt < 48 ∨ 57 < sgv v_size a_text (v_end).toInt)) → (0 ≤ (v_faultKind).toInt) → (0 ≤ (v_rb).toInt) → ((v_rb).toInt ≤ 1) → (∀ i : Nat, (i < 8) → (0 ≤ (a_gradeMany i).toInt ∧ (a_gradeMany i).toInt ≤ 4)) → (∀ i : Nat, (i < 32) → (0 ≤ (a_gKind i).toInt ∧ (a_gKind i).toInt ≤ 4)) → (gG ≤ (v_at).toInt) → (∀ i : Nat, ((v_faultKind).toInt = 0 ∧ (i : Int) = (x1).toInt) → ((a_gradeMany i).toInt ≤ 3)) → (0 ≤ (x1).toInt) → ((x1).toInt ≤ 7) → (0 ≤ (x3).toInt) → ((x3).toInt ≤ 4) → (4 * (x1).toInt ≤ (x5).toInt) → ((x5).toInt ≤ 4 * (x1).toInt + 4) → (32 - (x5).toInt).toNat < mB116 → OK (k116 v_faultKind v_faultPlace v_at v_end v_token v_number v_name a_gradeMany a_gKind a_gPurity a_gPrice x1 x2 x3 x4 x5) (fun u => (0 ≤ (u.2.2.2.1).toInt) ∧ ((u.2.2.2.1).toInt ≤ (u.2.2.2.2.1).toInt) ∧ ((u.2.2.2.2.1).toInt ≤ (v_size).toInt) ∧ ((u.2.2.2.2.2.1).toInt ≠ 0 → (u.2.2.2.1).toInt < (u.2.2.2.2.1).toInt) ∧ ((u.2.2.2.2.2.1).toInt = 4 → (0 ≤ (u.2.2.2.2.2.2.1).toInt ∧ (u.2.2.2.2.2.2.1).toInt ≤ 99999)) ∧ ((u.2.2.2.2.2.1).toInt = 4 → (sgv v_size a_text (u.2.2.2.2.1).toInt < 48 ∨ 57 < sgv v_size a_text (u.2.2.2.2.1).toInt)) ∧ (0 ≤ (u.2.1).toInt) ∧ (∀ i : Nat, (i < 8) → (0 ≤ (u.2.2.2.2.2.2.2.2.1 i).toInt ∧ (u.2.2.2.2.2.2.2.2.1 i).toInt ≤ 4)) ∧ (∀ i : Nat, (i < 32) → (0 ≤ (u.2.2.2.2.2.2.2.2.2.1 i).toInt ∧ (u.2.2.2.2.2.2.2.2.2.1 i).toInt ≤ 4)) ∧ (gG ≤ (u.2.2.2.1).toInt))) (v_faultKind : Int32) (v_faultPlace : Int32) (v_at : Int32) (v_end : Int32) (v_token : Int32) (v_number : Int32) (v_name : Int64) (a_gradeMany : Nat → Int32) (a_gKind : Nat → Int32) (a_gPurity : Nat → Int32) (a_gPrice : Nat → Int32) (x1 : Int32) (x2 : Int32) (x3 : Int32) (x4 : Int32) (x5 : Int32) (i0 : (v_size).toInt ≤ 1200) (i1 : 0 ≤ (v_at).toInt) (i2 : (v_at).toInt ≤ (v_end).toInt) (i3 : (v_end).toInt ≤ (v_size).toInt) (i4 : (v_token).toInt ≠ 0 → (v_at).toInt < (v_end).toInt) (i5 : (v_token).toInt = 4 → (0 ≤ (v_number).toInt ∧ (v_number).toInt ≤ 99999)) (i6 : (v_token).toInt = 4 → (sgv v_size a_text (v_end).toInt < 48 ∨ 57 < sgv v_size a_text (v_end).toInt)) (i7 : 0 ≤ (v_faultKind).toInt) (i8 : 0 ≤ (v_rb).toInt) (i9 : (v_rb).toInt ≤ 1) (i10 : ∀ i : Nat, (i < 8) → (0 ≤ (a_gradeMany i).toInt ∧ (a_gradeMany i).toInt ≤ 4)) (i11 : ∀ i : Nat, (i < 32) → (0 ≤ (a_gKind i).toInt ∧ (a_gKind i).toInt ≤ 4)) (i12 : gG ≤ (v_at).toInt) (i13 : ∀ i : Nat, ((v_faultKind).toInt = 0 ∧ (i : Int) = (x1).toInt) → ((a_gradeMany i).toInt ≤ 3)) (i14 : 0 ≤ (x1).toInt) (i15 : (x1).toInt ≤ 7) (i16 : 0 ≤ (x3).toInt) (i17 : (x3).toInt ≤ 4) (i18 : 4 * (x1).toInt ≤ (x5).toInt) (i19 : (x5).toInt < 4 * (x1).toInt + 4) (i20 : (32 - (x5).toInt).toNat ≤ mB116) : OK (FX7_readGrade_156 n v_size v_rb a_text k116 v_faultKind v_faultPlace v_at v_end v_token v_number v_name a_gradeMany a_gKind a_gPurity a_gPrice x1 x2 x3 x4 x5) (fun u => (0 ≤ (u.2.2.2.1).toInt) ∧ ((u.2.2.2.1).toInt ≤ (u.2.2.2.2.1).toInt) ∧ ((u.2.2.2.2.1).toInt ≤ (v_size).toInt) ∧ ((u.2.2.2.2.2.1).toInt ≠ 0 → (u.2.2.2.1).toInt < (u.2.2.2.2.1).toInt) ∧ ((u.2.2.2.2.2.1).toInt = 4 → (0 ≤ (u.2.2.2.2.2.2.1).toInt ∧ (u.2.2.2.2.2.2.1).toInt ≤ 99999)) ∧ ((u.2.2.2.2.2.1).toInt = 4 → (sgv v_size a_text (u.2.2.2.2.1).toInt < 48 ∨ 57 < sgv v_size a_text (u.2.2.2.2.1).toInt)) ∧ (0 ≤ (u.2.1).toInt) ∧ (∀ i : Nat, (i < 8) → (0 ≤ (u.2.2.2.2.2.2.2.2.1 i).toInt ∧ (u.2.2.2.2.2.2.2.2.1 i).toInt ≤ 4)) ∧ (∀ i : Nat, (i < 32) → (0 ≤ (u.2.2.2.2.2.2.2.2.2.1 i).toInt ∧ (u.2.2.2.2.2.2.2.2.2.1 i).toInt ≤ 4)) ∧ (gG ≤ (u.2.2.2.1).toInt)) := by
  unfold FX7_readGrade_156
  have v2804 : HQ ((1 : Int32)).toInt 1 := HQ.mk (by decide)
  have v2805 : HQ ((x5 + (1 : Int32))).toInt ((x5).toInt + 1) := HQ.mk (addV rfl v2804.out (by omega) (by omega))
  refine OK_lt (fun x_50 e_x_50 => ?_)
  have f2806 : (x_50).toInt = ((x5).toInt + 1) := by rw [e_x_50]; exact v2805.out
  exact hk116 v_faultKind v_faultPlace v_at v_end v_token v_number v_name a_gradeMany a_gKind a_gPurity a_gPrice x1 x2 x3 x4 x_50 i0 i1 i2 i3 i4 i5 i6 i7 i8 i9 i10 i11 i12 i13 i14 i15 i16 i17 (by omega) (by omega) (by omega)
set_option maxHeartbeats 2000000 in
theorem sFX7_readGrade_162 (n : Nat) (hn : n = 2200000000) (v_size : Int32) (v_rb : Int32) (a_text : Nat → Int32) (gG : Int) (v_faultKind : Int32) (v_faultPlace : Int32) (v_at : Int32) (v_end : Int32) (v_token : Int32) (v_number : Int32) (v_name : Int64) (a_gradeMany : Nat → Int32) (a_gKind : Nat → Int32) (a_gPurity : Nat → Int32) (a_gPrice : Nat → Int32) (x1 : Int32) (x3 : Int32) (x4 : Int32) (i0 : (v_size).toInt ≤ 1200) (i1 : 0 ≤ (v_at).toInt) (i2 : (v_at).toInt ≤ (v_end).toInt) (i3 : (v_end).toInt ≤ (v_size).toInt) (i4 : (v_token).toInt ≠ 0 → (v_at).toInt < (v_end).toInt) (i5 : (v_token).toInt = 4 → (0 ≤ (v_number).toInt ∧ (v_number).toInt ≤ 99999)) (i6 : (v_token).toInt = 4 → (sgv v_size a_text (v_end).toInt < 48 ∨ 57 < sgv v_size a_text (v_end).toInt)) (i7 : 0 ≤ (v_faultKind).toInt) (i8 : 0 ≤ (v_rb).toInt) (i9 : (v_rb).toInt ≤ 1) (i10 : ∀ i : Nat, (i < 8) → (0 ≤ (a_gradeMany i).toInt ∧ (a_gradeMany i).toInt ≤ 4)) (i11 : ∀ i : Nat, (i < 32) → (0 ≤ (a_gKind i).toInt ∧ (a_gKind i).toInt ≤ 4)) (i12 : gG ≤ (v_at).toInt) (i13 : ∀ i : Nat, ((v_faultKind).toInt = 0 ∧ (i : Int) = (x1).toInt) → ((a_gradeMany i).toInt ≤ 3)) (i14 : 0 ≤ (x1).toInt) (i15 : (x1).toInt ≤ 7) (i16 : 0 ≤ (x3).toInt) (i17 : (x3).toInt ≤ 4) : OK (FX7_readGrade_162 n v_size v_rb a_text v_faultKind v_faultPlace v_at v_end v_token v_number v_name a_gradeMany a_gKind a_gPurity a_gPrice x1 x3 x4) (fun u => (0 ≤ (u.2.2.2.1).toInt) ∧ ((u.2.2.2.1).toInt ≤ (u.2.2.2.2.1).toInt) ∧ ((u.2.2.2.2.1).toInt ≤ (v_size).toInt) ∧ ((u.2.2.2.2.2.1).toInt ≠ 0 → (u.2.2.2.1).toInt < (u.2.2.2.2.1).toInt) ∧ ((u.2.2.2.2.2.1).toInt = 4 → (0 ≤ (u.2.2.2.2.2.2.1).toInt ∧ (u.2.2.2.2.2.2.1).toInt ≤ 99999)) ∧ ((u.2.2.2.2.2.1).toInt = 4 → (sgv v_size a_text (u.2.2.2.2.1).toInt < 48 ∨ 57 < sgv v_size a_text (u.2.2.2.2.1).toInt)) ∧ (0 ≤ (u.2.1).toInt) ∧ (∀ i : Nat, (i < 8) → (0 ≤ (u.2.2.2.2.2.2.2.2.1 i).toInt ∧ (u.2.2.2.2.2.2.2.2.1 i).toInt ≤ 4)) ∧ (∀ i : Nat, (i < 32) → (0 ≤ (u.2.2.2.2.2.2.2.2.2.1 i).toInt ∧ (u.2.2.2.2.2.2.2.2.2.1 i).toInt ≤ 4)) ∧ (gG ≤ (u.2.2.2.1).toInt)) := by
  unfold FX7_readGrade_162
  have v2807 : HQ ((9999 : Int32)).toInt 9999 := HQ.mk (by decide)
  refine OK_bd (sX7_numeral n hn v_size v_faultKind v_faultPlace v_at v_end v_token v_number v_name a_text (9999 : Int32) ((v_at).toInt) ((v_end).toInt) ((v_token).toInt) ((v_number).toInt) ((v_faultKind).toInt) i0 i1 i2 i3 i4 i5 i6 i7 (by (rw [v2807.out]) <;> omega) (by omega) (by omega) (by omega) (by omega) (by omega)) (fun u_34 p_u_34 => ?_)
  obtain ⟨p2808, p2809, p2810, p2811, p2812, p2813, p2814, p2815, p2816, p2817, p2818, p2819, p2820⟩ := p_u_34
  try simp only [v2807.out] at p2820
  refine OK_bd (sX7_isGood n hn u_34.2.1) (fun u_36 p_u_36 => ?_)
  have p2821 := p_u_36
  clear p_u_36
  refine OK_if (fun c2822 => ?_) (fun c2822 => ?_)
  · have v2823 : HQ ((0 : Int32)).toInt 0 := HQ.mk (by decide)
    have f2824 := eq32k rfl v2823.out c2822
    exact OK_some (show (0 ≤ (u_34.2.2.2.1).toInt) ∧ ((u_34.2.2.2.1).toInt ≤ (u_34.2.2.2.2.1).toInt) ∧ ((u_34.2.2.2.2.1).toInt ≤ (v_size).toInt) ∧ ((u_34.2.2.2.2.2.1).toInt ≠ 0 → (u_34.2.2.2.1).toInt < (u_34.2.2.2.2.1).toInt) ∧ ((u_34.2.2.2.2.2.1).toInt = 4 → (0 ≤ (u_34.2.2.2.2.2.2.1).toInt ∧ (u_34.2.2.2.2.2.2.1).toInt ≤ 99999)) ∧ ((u_34.2.2.2.2.2.1).toInt = 4 → (sgv v_size a_text (u_34.2.2.2.2.1).toInt < 48 ∨ 57 < sgv v_size a_text (u_34.2.2.2.2.1).toInt)) ∧ (0 ≤ (u_34.2.1).toInt) ∧ (∀ i : Nat, (i < 8) → (0 ≤ (a_gradeMany i).toInt ∧ (a_gradeMany i).toInt ≤ 4)) ∧ (∀ i : Nat, (i < 32) → (0 ≤ (a_gKind i).toInt ∧ (a_gKind i).toInt ≤ 4)) ∧ (gG ≤ (u_34.2.2.2.1).toInt) from ⟨p2808, p2809, p2810, p2811, p2812, p2813, p2814, i10, i11, (by omega)⟩)
  · have v2825 : HQ ((0 : Int32)).toInt 0 := HQ.mk (by decide)
    have f2826 := neq32k rfl v2825.out c2822
    refine OK_ck (ckV rfl (by omega) (by omega)) ?_
    have v2827 : HQ ((4 : Int32)).toInt 4 := HQ.mk (by decide)
    have v2828 : HQ (((4 : Int32) * x1)).toInt (4 * (x1).toInt) := HQ.mk (mulV v2827.out rfl (by omega) (by omega))
    obtain ⟨m2829, v2830, f2831⟩ := tnV (e := x1) rfl (by omega)
    have v2832 : HQ ((a_gradeMany ((x1).toNatClampNeg))).toInt (a_gradeMany m2829).toInt := HQ.mk (by rw [v2830.out])
    have f2833 := i10 m2829
    have f2834 := i13 m2829
    have v2835 : HQ ((((4 : Int32) * x1) + (a_gradeMany ((x1).toNatClampNeg)))).toInt ((4 * (x1).toInt) + (a_gradeMany m2829).toInt) := HQ.mk (addV v2828.out v2832.out (by omega) (by omega))
    refine OK_lt (fun x_39 e_x_39 => ?_)
    have f2836 : (x_39).toInt = ((4 * (x1).toInt) + (a_gradeMany m2829).toInt) := by rw [e_x_39]; exact v2835.out
    refine OK_ck (ckV rfl (by omega) (by omega)) ?_
    obtain ⟨m2837, v2838, f2839⟩ := tnV (e := x_39) rfl (by omega)
    refine OK_lt (fun f_41 e_f_41 => ?_)
    rw [v2838.out] at e_f_41
    refine OK_ck (ckV rfl (by omega) (by omega)) ?_
    refine OK_lt (fun f_43 e_f_43 => ?_)
    rw [v2838.out] at e_f_43
    refine OK_ck (ckV rfl (by omega) (by omega)) ?_
    refine OK_lt (fun f_45 e_f_45 => ?_)
    rw [v2838.out] at e_f_45
    refine OK_ck (ckV rfl (by omega) (by omega)) ?_
    have v2840 : HQ ((1 : Int32)).toInt 1 := HQ.mk (by decide)
    have v2841 : HQ (((a_gradeMany ((x1).toNatClampNeg)) + (1 : Int32))).toInt ((a_gradeMany m2829).toInt + 1) := HQ.mk (addV v2832.out v2840.out (by omega) (by omega))
    refine OK_lt (fun x_47 e_x_47 => ?_)
    have f2842 : (x_47).toInt = ((a_gradeMany m2829).toInt + 1) := by rw [e_x_47]; exact v2841.out
    refine OK_ck (ckV rfl (by omega) (by omega)) ?_
    refine OK_lt (fun f_49 e_f_49 => ?_)
    rw [v2830.out] at e_f_49
    exact OK_some (show (0 ≤ (u_34.2.2.2.1).toInt) ∧ ((u_34.2.2.2.1).toInt ≤ (u_34.2.2.2.2.1).toInt) ∧ ((u_34.2.2.2.2.1).toInt ≤ (v_size).toInt) ∧ ((u_34.2.2.2.2.2.1).toInt ≠ 0 → (u_34.2.2.2.1).toInt < (u_34.2.2.2.2.1).toInt) ∧ ((u_34.2.2.2.2.2.1).toInt = 4 → (0 ≤ (u_34.2.2.2.2.2.2.1).toInt ∧ (u_34.2.2.2.2.2.2.1).toInt ≤ 99999)) ∧ ((u_34.2.2.2.2.2.1).toInt = 4 → (sgv v_size a_text (u_34.2.2.2.2.1).toInt < 48 ∨ 57 < sgv v_size a_text (u_34.2.2.2.2.1).toInt)) ∧ (0 ≤ (u_34.2.1).toInt) ∧ (∀ i : Nat, (i < 8) → (0 ≤ (f_49 i).toInt ∧ (f_49 i).toInt ≤ 4)) ∧ (∀ i : Nat, (i < 32) → (0 ≤ (f_41 i).toInt ∧ (f_41 i).toInt ≤ 4)) ∧ (gG ≤ (u_34.2.2.2.1).toInt) from ⟨p2808, p2809, p2810, p2811, p2812, p2813, p2814, (by
        intro i hi
        have f2843 := updW e_f_49 rfl i
        have f2844 := i10 i
        have f2845 := i13 i
        have f2846 := congAt a_gradeMany i m2829
        omega), (by
        intro i hi
        have f2847 := updW e_f_41 rfl i
        have f2848 := i11 i
        omega), (by omega)⟩)
set_option maxHeartbeats 2000000 in
theorem sFX7_readGrade_116 (n : Nat) (hn : n = 2200000000) (v_size : Int32) (v_rb : Int32) (a_text : Nat → Int32) (gG : Int) (k116 : Int32 → Int32 → Int32 → Int32 → Int32 → Int32 → Int64 → (Nat → Int32) → (Nat → Int32) → (Nat → Int32) → (Nat → Int32) → Int32 → Int32 → Int32 → Int32 → Int32 → Option (Unit × Int32 × Int32 × Int32 × Int32 × Int32 × Int32 × Int64 × (Nat → Int32) × (Nat → Int32) × (Nat → Int32) × (Nat → Int32))) (mB116 : Nat) (hk116 : ∀ (v_faultKind : Int32) (v_faultPlace : Int32) (v_at : Int32) (v_end : Int32) (v_token : Int32) (v_number : Int32) (v_name : Int64) (a_gradeMany : Nat → Int32) (a_gKind : Nat → Int32) (a_gPurity : Nat → Int32) (a_gPrice : Nat → Int32) (x1 : Int32) (x2 : Int32) (x3 : Int32) (x4 : Int32) (x5 : Int32), ((v_size).toInt ≤ 1200) → (0 ≤ (v_at).toInt) → ((v_at).toInt ≤ (v_end).toInt) → ((v_end).toInt ≤ (v_size).toInt) → ((v_token).toInt ≠ 0 → (v_at).toInt < (v_end).toInt) → ((v_token).toInt = 4 → (0 ≤ (v_number).toInt ∧ (v_number).toInt ≤ 99999)) → ((v_token).toInt = 4 → (sgv v_size a_text (v_end).toInt < 48 ∨ 57 < sgv v_size a_text (v_end).toInt)) → (0 ≤ (v_faultKind).toInt) → (0 ≤ (v_rb).toInt) → ((v_rb).toInt ≤ 1) → (∀ i : Nat, (i < 8) → (0 ≤ (a_gradeMany i).toInt ∧ (a_gradeMany i).toInt ≤ 4)) → (∀ i : Nat, (i < 32) → (0 ≤ (a_gKind i).toInt ∧ (a_gKind i).toInt ≤ 4)) → (gG ≤ (v_at).toInt) → (∀ i : Nat, ((v_faultKind).toInt = 0 ∧ (i : Int) = (x1).toInt) → ((a_gradeMany i).toInt ≤ 3)) → (0 ≤ (x1).toInt) → ((x1).toInt ≤ 7) → (0 ≤ (x3).toInt) → ((x3).toInt ≤ 4) → (4 * (x1).toInt ≤ (x5).toInt) → ((x5).toInt ≤ 4 * (x1).toInt + 4) → (32 - (x5).toInt).toNat < mB116 → OK (k116 v_faultKind v_faultPlace v_at v_end v_token v_number v_name a_gradeMany a_gKind a_gPurity a_gPrice x1 x2 x3 x4 x5) (fun u => (0 ≤ (u.2.2.2.1).toInt) ∧ ((u.2.2.2.1).toInt ≤ (u.2.2.2.2.1).toInt) ∧ ((u.2.2.2.2.1).toInt ≤ (v_size).toInt) ∧ ((u.2.2.2.2.2.1).toInt ≠ 0 → (u.2.2.2.1).toInt < (u.2.2.2.2.1).toInt) ∧ ((u.2.2.2.2.2.1).toInt = 4 → (0 ≤ (u.2.2.2.2.2.2.1).toInt ∧ (u.2.2.2.2.2.2.1).toInt ≤ 99999)) ∧ ((u.2.2.2.2.2.1).toInt = 4 → (sgv v_size a_text (u.2.2.2.2.1).toInt < 48 ∨ 57 < sgv v_size a_text (u.2.2.2.2.1).toInt)) ∧ (0 ≤ (u.2.1).toInt) ∧ (∀ i : Nat, (i < 8) → (0 ≤ (u.2.2.2.2.2.2.2.2.1 i).toInt ∧ (u.2.2.2.2.2.2.2.2.1 i).toInt ≤ 4)) ∧ (∀ i : Nat, (i < 32) → (0 ≤ (u.2.2.2.2.2.2.2.2.2.1 i).toInt ∧ (u.2.2.2.2.2.2.2.2.2.1 i).toInt ≤ 4)) ∧ (gG ≤ (u.2.2.2.1).toInt))) (v_faultKind : Int32) (v_faultPlace : Int32) (v_at : Int32) (v_end : Int32) (v_token : Int32) (v_number : Int32) (v_name : Int64) (a_gradeMany : Nat → Int32) (a_gKind : Nat → Int32) (a_gPurity : Nat → Int32) (a_gPrice : Nat → Int32) (x1 : Int32) (x2 : Int32) (x3 : Int32) (x4 : Int32) (x5 : Int32) (i0 : (v_size).toInt ≤ 1200) (i1 : 0 ≤ (v_at).toInt) (i2 : (v_at).toInt ≤ (v_end).toInt) (i3 : (v_end).toInt ≤ (v_size).toInt) (i4 : (v_token).toInt ≠ 0 → (v_at).toInt < (v_end).toInt) (i5 : (v_token).toInt = 4 → (0 ≤ (v_number).toInt ∧ (v_number).toInt ≤ 99999)) (i6 : (v_token).toInt = 4 → (sgv v_size a_text (v_end).toInt < 48 ∨ 57 < sgv v_size a_text (v_end).toInt)) (i7 : 0 ≤ (v_faultKind).toInt) (i8 : 0 ≤ (v_rb).toInt) (i9 : (v_rb).toInt ≤ 1) (i10 : ∀ i : Nat, (i < 8) → (0 ≤ (a_gradeMany i).toInt ∧ (a_gradeMany i).toInt ≤ 4)) (i11 : ∀ i : Nat, (i < 32) → (0 ≤ (a_gKind i).toInt ∧ (a_gKind i).toInt ≤ 4)) (i12 : gG ≤ (v_at).toInt) (i13 : ∀ i : Nat, ((v_faultKind).toInt = 0 ∧ (i : Int) = (x1).toInt) → ((a_gradeMany i).toInt ≤ 3)) (i14 : 0 ≤ (x1).toInt) (i15 : (x1).toInt ≤ 7) (i16 : 0 ≤ (x3).toInt) (i17 : (x3).toInt ≤ 4) (i18 : 4 * (x1).toInt ≤ (x5).toInt) (i19 : (x5).toInt ≤ 4 * (x1).toInt + 4) (hmu : (32 - (x5).toInt).toNat ≤ mB116) : OK (FX7_readGrade_116 n v_size v_rb a_text k116 v_faultKind v_faultPlace v_at v_end v_token v_number v_name a_gradeMany a_gKind a_gPurity a_gPrice x1 x2 x3 x4 x5) (fun u => (0 ≤ (u.2.2.2.1).toInt) ∧ ((u.2.2.2.1).toInt ≤ (u.2.2.2.2.1).toInt) ∧ ((u.2.2.2.2.1).toInt ≤ (v_size).toInt) ∧ ((u.2.2.2.2.2.1).toInt ≠ 0 → (u.2.2.2.1).toInt < (u.2.2.2.2.1).toInt) ∧ ((u.2.2.2.2.2.1).toInt = 4 → (0 ≤ (u.2.2.2.2.2.2.1).toInt ∧ (u.2.2.2.2.2.2.1).toInt ≤ 99999)) ∧ ((u.2.2.2.2.2.1).toInt = 4 → (sgv v_size a_text (u.2.2.2.2.1).toInt < 48 ∨ 57 < sgv v_size a_text (u.2.2.2.2.1).toInt)) ∧ (0 ≤ (u.2.1).toInt) ∧ (∀ i : Nat, (i < 8) → (0 ≤ (u.2.2.2.2.2.2.2.2.1 i).toInt ∧ (u.2.2.2.2.2.2.2.2.1 i).toInt ≤ 4)) ∧ (∀ i : Nat, (i < 32) → (0 ≤ (u.2.2.2.2.2.2.2.2.2.1 i).toInt ∧ (u.2.2.2.2.2.2.2.2.2.1 i).toInt ≤ 4)) ∧ (gG ≤ (u.2.2.2.1).toInt)) := by
  unfold FX7_readGrade_116
  refine OK_ck (ckV rfl (by omega) (by omega)) ?_
  refine OK_if (fun c2849 => ?_) (fun c2849 => ?_)
  · have v2850 : HQ ((4 : Int32)).toInt 4 := HQ.mk (by decide)
    have v2851 : HQ (((4 : Int32) * x1)).toInt (4 * (x1).toInt) := HQ.mk (mulV v2850.out rfl (by omega) (by omega))
    obtain ⟨m2852, v2853, f2854⟩ := tnV (e := x1) rfl (by omega)
    have v2855 : HQ ((a_gradeMany ((x1).toNatClampNeg))).toInt (a_gradeMany m2852).toInt := HQ.mk (by rw [v2853.out])
    have f2856 := i10 m2852
    have f2857 := i13 m2852
    have v2858 : HQ ((((4 : Int32) * x1) + (a_gradeMany ((x1).toNatClampNeg)))).toInt ((4 * (x1).toInt) + (a_gradeMany m2852).toInt) := HQ.mk (addV v2851.out v2855.out (by omega) (by omega))
    have f2859 := le32k v2858.out rfl c2849
    exact sFX7_readGrade_162 n hn v_size v_rb a_text gG v_faultKind v_faultPlace v_at v_end v_token v_number v_name a_gradeMany a_gKind a_gPurity a_gPrice x1 x3 x4 i0 i1 i2 i3 i4 i5 i6 i7 i8 i9 i10 i11 i12 i13 i14 i15 i16 i17
  · have v2860 : HQ ((4 : Int32)).toInt 4 := HQ.mk (by decide)
    have v2861 : HQ (((4 : Int32) * x1)).toInt (4 * (x1).toInt) := HQ.mk (mulV v2860.out rfl (by omega) (by omega))
    obtain ⟨m2862, v2863, f2864⟩ := tnV (e := x1) rfl (by omega)
    have v2865 : HQ ((a_gradeMany ((x1).toNatClampNeg))).toInt (a_gradeMany m2862).toInt := HQ.mk (by rw [v2863.out])
    have f2866 := i10 m2862
    have f2867 := i13 m2862
    have v2868 : HQ ((((4 : Int32) * x1) + (a_gradeMany ((x1).toNatClampNeg)))).toInt ((4 * (x1).toInt) + (a_gradeMany m2862).toInt) := HQ.mk (addV v2861.out v2865.out (by omega) (by omega))
    have f2869 := nle32k v2868.out rfl c2849
    refine OK_bd (sX7_isGood n hn v_faultKind) (fun u_27 p_u_27 => ?_)
    have p2870 := p_u_27
    clear p_u_27
    refine OK_if (fun c2871 => ?_) (fun c2871 => ?_)
    · have v2872 : HQ ((0 : Int32)).toInt 0 := HQ.mk (by decide)
      have f2873 := eq32k rfl v2872.out c2871
      exact sFX7_readGrade_162 n hn v_size v_rb a_text gG v_faultKind v_faultPlace v_at v_end v_token v_number v_name a_gradeMany a_gKind a_gPurity a_gPrice x1 x3 x4 i0 i1 i2 i3 i4 i5 i6 i7 i8 i9 i10 i11 i12 i13 i14 i15 i16 i17
    · have v2874 : HQ ((0 : Int32)).toInt 0 := HQ.mk (by decide)
      have f2875 := neq32k rfl v2874.out c2871
      refine OK_ck (ckV rfl (by omega) (by omega)) ?_
      refine OK_if (fun c2876 => ?_) (fun c2876 => ?_)
      · obtain ⟨m2877, v2878, f2879⟩ := tnV (e := x5) rfl (by omega)
        have v2880 : HQ ((a_gPurity ((x5).toNatClampNeg))).toInt (a_gPurity m2877).toInt := HQ.mk (by rw [v2878.out])
        have f2881 := eq32k v2880.out rfl c2876
        have v2882 : HQ ((5 : Int32)).toInt 5 := HQ.mk (by decide)
        refine OK_bd (sX7_fails n hn v_faultKind v_faultPlace (5 : Int32) x2 i7 (by (rw [v2882.out]) <;> omega)) (fun u_32 p_u_32 => ?_)
        have p2883 := p_u_32
        clear p_u_32
        exact sFX7_readGrade_156 n hn v_size v_rb a_text gG k116 mB116 hk116 u_32.2.1 u_32.2.2 v_at v_end v_token v_number v_name a_gradeMany a_gKind a_gPurity a_gPrice x1 x2 x3 x4 x5 i0 i1 i2 i3 i4 i5 i6 (by omega) i8 i9 i10 i11 i12 (by
            intro i hi
            have f2884 := i10 i
            have f2885 := i13 i
            have f2886 := congAt a_gradeMany i m2862
            omega) i14 i15 i16 i17 i18 (by omega) (by omega)
      · obtain ⟨m2887, v2888, f2889⟩ := tnV (e := x5) rfl (by omega)
        have v2890 : HQ ((a_gPurity ((x5).toNatClampNeg))).toInt (a_gPurity m2887).toInt := HQ.mk (by rw [v2888.out])
        have f2891 := neq32k v2890.out rfl c2876
        exact sFX7_readGrade_156 n hn v_size v_rb a_text gG k116 mB116 hk116 v_faultKind v_faultPlace v_at v_end v_token v_number v_name a_gradeMany a_gKind a_gPurity a_gPrice x1 x2 x3 x4 x5 i0 i1 i2 i3 i4 i5 i6 i7 i8 i9 i10 i11 i12 i13 i14 i15 i16 i17 i18 (by omega) (by omega)
theorem sFX7_readGrade_116L (n : Nat) (hn : n = 2200000000) (v_size : Int32) (v_rb : Int32) (a_text : Nat → Int32) (gG : Int) : ∀ (j : Nat) (v_faultKind : Int32) (v_faultPlace : Int32) (v_at : Int32) (v_end : Int32) (v_token : Int32) (v_number : Int32) (v_name : Int64) (a_gradeMany : Nat → Int32) (a_gKind : Nat → Int32) (a_gPurity : Nat → Int32) (a_gPrice : Nat → Int32) (x1 : Int32) (x2 : Int32) (x3 : Int32) (x4 : Int32) (x5 : Int32), ((v_size).toInt ≤ 1200) → (0 ≤ (v_at).toInt) → ((v_at).toInt ≤ (v_end).toInt) → ((v_end).toInt ≤ (v_size).toInt) → ((v_token).toInt ≠ 0 → (v_at).toInt < (v_end).toInt) → ((v_token).toInt = 4 → (0 ≤ (v_number).toInt ∧ (v_number).toInt ≤ 99999)) → ((v_token).toInt = 4 → (sgv v_size a_text (v_end).toInt < 48 ∨ 57 < sgv v_size a_text (v_end).toInt)) → (0 ≤ (v_faultKind).toInt) → (0 ≤ (v_rb).toInt) → ((v_rb).toInt ≤ 1) → (∀ i : Nat, (i < 8) → (0 ≤ (a_gradeMany i).toInt ∧ (a_gradeMany i).toInt ≤ 4)) → (∀ i : Nat, (i < 32) → (0 ≤ (a_gKind i).toInt ∧ (a_gKind i).toInt ≤ 4)) → (gG ≤ (v_at).toInt) → (∀ i : Nat, ((v_faultKind).toInt = 0 ∧ (i : Int) = (x1).toInt) → ((a_gradeMany i).toInt ≤ 3)) → (0 ≤ (x1).toInt) → ((x1).toInt ≤ 7) → (0 ≤ (x3).toInt) → ((x3).toInt ≤ 4) → (4 * (x1).toInt ≤ (x5).toInt) → ((x5).toInt ≤ 4 * (x1).toInt + 4) → (32 - (x5).toInt).toNat < j → OK (FX7_readGrade_116L n v_size v_rb a_text j v_faultKind v_faultPlace v_at v_end v_token v_number v_name a_gradeMany a_gKind a_gPurity a_gPrice x1 x2 x3 x4 x5) (fun u => (0 ≤ (u.2.2.2.1).toInt) ∧ ((u.2.2.2.1).toInt ≤ (u.2.2.2.2.1).toInt) ∧ ((u.2.2.2.2.1).toInt ≤ (v_size).toInt) ∧ ((u.2.2.2.2.2.1).toInt ≠ 0 → (u.2.2.2.1).toInt < (u.2.2.2.2.1).toInt) ∧ ((u.2.2.2.2.2.1).toInt = 4 → (0 ≤ (u.2.2.2.2.2.2.1).toInt ∧ (u.2.2.2.2.2.2.1).toInt ≤ 99999)) ∧ ((u.2.2.2.2.2.1).toInt = 4 → (sgv v_size a_text (u.2.2.2.2.1).toInt < 48 ∨ 57 < sgv v_size a_text (u.2.2.2.2.1).toInt)) ∧ (0 ≤ (u.2.1).toInt) ∧ (∀ i : Nat, (i < 8) → (0 ≤ (u.2.2.2.2.2.2.2.2.1 i).toInt ∧ (u.2.2.2.2.2.2.2.2.1 i).toInt ≤ 4)) ∧ (∀ i : Nat, (i < 32) → (0 ≤ (u.2.2.2.2.2.2.2.2.2.1 i).toInt ∧ (u.2.2.2.2.2.2.2.2.2.1 i).toInt ≤ 4)) ∧ (gG ≤ (u.2.2.2.1).toInt)) := by
  intro j
  induction j with
  | zero => intro _ _ _ _ _ _ _ _ _ _ _ _ _ _ _ _ _ _ _ _ _ _ _ _ _ _ _ _ _ _ _ _ _ _ _ _ hj; exact absurd hj (Nat.not_lt_zero _)
  | succ j ih =>
    intro v_faultKind v_faultPlace v_at v_end v_token v_number v_name a_gradeMany a_gKind a_gPurity a_gPrice x1 x2 x3 x4 x5 i0 i1 i2 i3 i4 i5 i6 i7 i8 i9 i10 i11 i12 i13 i14 i15 i16 i17 i18 i19 hj
    exact sFX7_readGrade_116 n hn v_size v_rb a_text gG (FX7_readGrade_116L n v_size v_rb a_text j) ((32 - (x5).toInt).toNat) (fun y0 y1 y2 y3 y4 y5 y6 y7 y8 y9 y10 y11 y12 y13 y14 y15 w0 w1 w2 w3 w4 w5 w6 w7 w8 w9 w10 w11 w12 w13 w14 w15 w16 w17 w18 w19 hlt => ih y0 y1 y2 y3 y4 y5 y6 y7 y8 y9 y10 y11 y12 y13 y14 y15 w0 w1 w2 w3 w4 w5 w6 w7 w8 w9 w10 w11 w12 w13 w14 w15 w16 w17 w18 w19 (by omega)) v_faultKind v_faultPlace v_at v_end v_token v_number v_name a_gradeMany a_gKind a_gPurity a_gPrice x1 x2 x3 x4 x5 i0 i1 i2 i3 i4 i5 i6 i7 i8 i9 i10 i11 i12 i13 i14 i15 i16 i17 i18 i19 (Nat.le_refl _)
set_option maxHeartbeats 2000000 in
theorem sFX7_readGrade_98 (n : Nat) (hn : n = 2200000000) (v_size : Int32) (v_rb : Int32) (a_text : Nat → Int32) (gG : Int) (v_faultKind : Int32) (v_faultPlace : Int32) (v_at : Int32) (v_end : Int32) (v_token : Int32) (v_number : Int32) (v_name : Int64) (a_gradeMany : Nat → Int32) (a_gKind : Nat → Int32) (a_gPurity : Nat → Int32) (a_gPrice : Nat → Int32) (x1 : Int32) (x3 : Int32) (i0 : (v_size).toInt ≤ 1200) (i1 : 0 ≤ (v_at).toInt) (i2 : (v_at).toInt ≤ (v_end).toInt) (i3 : (v_end).toInt ≤ (v_size).toInt) (i4 : (v_token).toInt ≠ 0 → (v_at).toInt < (v_end).toInt) (i5 : (v_token).toInt = 4 → (0 ≤ (v_number).toInt ∧ (v_number).toInt ≤ 99999)) (i6 : (v_token).toInt = 4 → (sgv v_size a_text (v_end).toInt < 48 ∨ 57 < sgv v_size a_text (v_end).toInt)) (i7 : 0 ≤ (v_faultKind).toInt) (i8 : 0 ≤ (v_rb).toInt) (i9 : (v_rb).toInt ≤ 1) (i10 : ∀ i : Nat, (i < 8) → (0 ≤ (a_gradeMany i).toInt ∧ (a_gradeMany i).toInt ≤ 4)) (i11 : ∀ i : Nat, (i < 32) → (0 ≤ (a_gKind i).toInt ∧ (a_gKind i).toInt ≤ 4)) (i12 : gG ≤ (v_at).toInt) (i13 : ∀ i : Nat, ((v_faultKind).toInt = 0 ∧ (i : Int) = (x1).toInt) → ((a_gradeMany i).toInt ≤ 3)) (i14 : 0 ≤ (x1).toInt) (i15 : (x1).toInt ≤ 7) (i16 : 0 ≤ (x3).toInt) (i17 : (x3).toInt ≤ 4) : OK (FX7_readGrade_98 n v_size v_rb a_text v_faultKind v_faultPlace v_at v_end v_token v_number v_name a_gradeMany a_gKind a_gPurity a_gPrice x1 x3) (fun u => (0 ≤ (u.2.2.2.1).toInt) ∧ ((u.2.2.2.1).toInt ≤ (u.2.2.2.2.1).toInt) ∧ ((u.2.2.2.2.1).toInt ≤ (v_size).toInt) ∧ ((u.2.2.2.2.2.1).toInt ≠ 0 → (u.2.2.2.1).toInt < (u.2.2.2.2.1).toInt) ∧ ((u.2.2.2.2.2.1).toInt = 4 → (0 ≤ (u.2.2.2.2.2.2.1).toInt ∧ (u.2.2.2.2.2.2.1).toInt ≤ 99999)) ∧ ((u.2.2.2.2.2.1).toInt = 4 → (sgv v_size a_text (u.2.2.2.2.1).toInt < 48 ∨ 57 < sgv v_size a_text (u.2.2.2.2.1).toInt)) ∧ (0 ≤ (u.2.1).toInt) ∧ (∀ i : Nat, (i < 8) → (0 ≤ (u.2.2.2.2.2.2.2.2.1 i).toInt ∧ (u.2.2.2.2.2.2.2.2.1 i).toInt ≤ 4)) ∧ (∀ i : Nat, (i < 32) → (0 ≤ (u.2.2.2.2.2.2.2.2.2.1 i).toInt ∧ (u.2.2.2.2.2.2.2.2.2.1 i).toInt ≤ 4)) ∧ (gG ≤ (u.2.2.2.1).toInt)) := by
  unfold FX7_readGrade_98
  have v2892 : HQ ((100 : Int32)).toInt 100 := HQ.mk (by decide)
  refine OK_bd (sX7_numeral n hn v_size v_faultKind v_faultPlace v_at v_end v_token v_number v_name a_text (100 : Int32) ((v_at).toInt) ((v_end).toInt) ((v_token).toInt) ((v_number).toInt) ((v_faultKind).toInt) i0 i1 i2 i3 i4 i5 i6 i7 (by (rw [v2892.out]) <;> omega) (by omega) (by omega) (by omega) (by omega) (by omega)) (fun u_22 p_u_22 => ?_)
  obtain ⟨p2893, p2894, p2895, p2896, p2897, p2898, p2899, p2900, p2901, p2902, p2903, p2904, p2905⟩ := p_u_22
  try simp only [v2892.out] at p2905
  have v2906 : HQ ((4 : Int32)).toInt 4 := HQ.mk (by decide)
  have v2907 : HQ (((4 : Int32) * x1)).toInt (4 * (x1).toInt) := HQ.mk (mulV v2906.out rfl (by omega) (by omega))
  refine OK_lt (fun x_23 e_x_23 => ?_)
  have f2908 : (x_23).toInt = (4 * (x1).toInt) := by rw [e_x_23]; exact v2907.out
  exact sFX7_readGrade_116L n hn v_size v_rb a_text gG n u_22.2.1 u_22.2.2.1 u_22.2.2.2.1 u_22.2.2.2.2.1 u_22.2.2.2.2.2.1 u_22.2.2.2.2.2.2.1 u_22.2.2.2.2.2.2.2 a_gradeMany a_gKind a_gPurity a_gPrice x1 v_at x3 u_22.1 x_23 i0 p2893 p2894 p2895 p2896 p2897 p2898 p2899 i8 i9 i10 i11 (by omega) (by
      intro i hi
      have f2909 := i10 i
      have f2910 := i13 i
      omega) i14 i15 i16 i17 (by omega) (by omega) (by omega)
set_option maxHeartbeats 2000000 in
theorem sFX7_readGrade_40 (n : Nat) (hn : n = 2200000000) (v_size : Int32) (v_rb : Int32) (a_text : Nat → Int32) (gG : Int) (v_faultKind : Int32) (v_faultPlace : Int32) (v_at : Int32) (v_end : Int32) (v_token : Int32) (v_number : Int32) (v_name : Int64) (a_gradeMany : Nat → Int32) (a_gKind : Nat → Int32) (a_gPurity : Nat → Int32) (a_gPrice : Nat → Int32) (i0 : (v_size).toInt ≤ 1200) (i1 : 0 ≤ (v_at).toInt) (i2 : (v_at).toInt ≤ (v_end).toInt) (i3 : (v_end).toInt ≤ (v_size).toInt) (i4 : (v_token).toInt ≠ 0 → (v_at).toInt < (v_end).toInt) (i5 : (v_token).toInt = 4 → (0 ≤ (v_number).toInt ∧ (v_number).toInt ≤ 99999)) (i6 : (v_token).toInt = 4 → (sgv v_size a_text (v_end).toInt < 48 ∨ 57 < sgv v_size a_text (v_end).toInt)) (i7 : 0 ≤ (v_faultKind).toInt) (i8 : 0 ≤ (v_rb).toInt) (i9 : (v_rb).toInt ≤ 1) (i10 : ∀ i : Nat, (i < 8) → (0 ≤ (a_gradeMany i).toInt ∧ (a_gradeMany i).toInt ≤ 4)) (i11 : ∀ i : Nat, (i < 32) → (0 ≤ (a_gKind i).toInt ∧ (a_gKind i).toInt ≤ 4)) (i12 : gG ≤ (v_at).toInt) (i13 : ∀ i : Nat, ((v_faultKind).toInt = 0 ∧ (v_token).toInt = 4 ∧ (i : Int) = 4 * (v_rb).toInt + (v_number).toInt ∧ (v_number).toInt ≤ 3) → ((a_gradeMany i).toInt ≤ 3)) : OK (FX7_readGrade_40 n v_size v_rb a_text v_faultKind v_faultPlace v_at v_end v_token v_number v_name a_gradeMany a_gKind a_gPurity a_gPrice) (fun u => (0 ≤ (u.2.2.2.1).toInt) ∧ ((u.2.2.2.1).toInt ≤ (u.2.2.2.2.1).toInt) ∧ ((u.2.2.2.2.1).toInt ≤ (v_size).toInt) ∧ ((u.2.2.2.2.2.1).toInt ≠ 0 → (u.2.2.2.1).toInt < (u.2.2.2.2.1).toInt) ∧ ((u.2.2.2.2.2.1).toInt = 4 → (0 ≤ (u.2.2.2.2.2.2.1).toInt ∧ (u.2.2.2.2.2.2.1).toInt ≤ 99999)) ∧ ((u.2.2.2.2.2.1).toInt = 4 → (sgv v_size a_text (u.2.2.2.2.1).toInt < 48 ∨ 57 < sgv v_size a_text (u.2.2.2.2.1).toInt)) ∧ (0 ≤ (u.2.1).toInt) ∧ (∀ i : Nat, (i < 8) → (0 ≤ (u.2.2.2.2.2.2.2.2.1 i).toInt ∧ (u.2.2.2.2.2.2.2.2.1 i).toInt ≤ 4)) ∧ (∀ i : Nat, (i < 32) → (0 ≤ (u.2.2.2.2.2.2.2.2.2.1 i).toInt ∧ (u.2.2.2.2.2.2.2.2.2.1 i).toInt ≤ 4)) ∧ (gG ≤ (u.2.2.2.1).toInt)) := by
  unfold FX7_readGrade_40
  have v2911 : HQ ((3 : Int32)).toInt 3 := HQ.mk (by decide)
  refine OK_bd (sX7_numeral n hn v_size v_faultKind v_faultPlace v_at v_end v_token v_number v_name a_text (3 : Int32) ((v_at).toInt) ((v_end).toInt) ((v_token).toInt) ((v_number).toInt) ((v_faultKind).toInt) i0 i1 i2 i3 i4 i5 i6 i7 (by (rw [v2911.out]) <;> omega) (by omega) (by omega) (by omega) (by omega) (by omega)) (fun u_8 p_u_8 => ?_)
  obtain ⟨p2912, p2913, p2914, p2915, p2916, p2917, p2918, p2919, p2920, p2921, p2922, p2923, p2924⟩ := p_u_8
  try simp only [v2911.out] at p2924
  have v2925 : HQ ((4 : Int32)).toInt 4 := HQ.mk (by decide)
  have v2926 : HQ (((4 : Int32) * v_rb)).toInt (4 * (v_rb).toInt) := HQ.mk (mulV v2925.out rfl (by omega) (by omega))
  have v2927 : HQ ((((4 : Int32) * v_rb) + u_8.1)).toInt ((4 * (v_rb).toInt) + (u_8.1).toInt) := HQ.mk (addV v2926.out rfl (by omega) (by omega))
  refine OK_lt (fun x_9 e_x_9 => ?_)
  have f2928 : (x_9).toInt = ((4 * (v_rb).toInt) + (u_8.1).toInt) := by rw [e_x_9]; exact v2927.out
  refine OK_bd (sX7_numeral n hn v_size u_8.2.1 u_8.2.2.1 u_8.2.2.2.1 u_8.2.2.2.2.1 u_8.2.2.2.2.2.1 u_8.2.2.2.2.2.2.1 u_8.2.2.2.2.2.2.2 a_text (4 : Int32) ((u_8.2.2.2.1).toInt) ((u_8.2.2.2.2.1).toInt) ((u_8.2.2.2.2.2.1).toInt) ((u_8.2.2.2.2.2.2.1).toInt) ((u_8.2.1).toInt) i0 p2912 p2913 p2914 p2915 p2916 p2917 p2918 (by (rw [v2925.out]) <;> omega) (by omega) (by omega) (by omega) (by omega) (by omega)) (fun u_11 p_u_11 => ?_)
  obtain ⟨p2929, p2930, p2931, p2932, p2933, p2934, p2935, p2936, p2937, p2938, p2939, p2940, p2941⟩ := p_u_11
  try simp only [v2925.out] at p2941
  refine OK_bd (sX7_isGood n hn u_11.2.1) (fun u_13 p_u_13 => ?_)
  have p2942 := p_u_13
  clear p_u_13
  refine OK_if (fun c2943 => ?_) (fun c2943 => ?_)
  · have v2944 : HQ ((0 : Int32)).toInt 0 := HQ.mk (by decide)
    have f2945 := eq32k rfl v2944.out c2943
    exact sFX7_readGrade_98 n hn v_size v_rb a_text gG u_11.2.1 u_11.2.2.1 u_11.2.2.2.1 u_11.2.2.2.2.1 u_11.2.2.2.2.2.1 u_11.2.2.2.2.2.2.1 u_11.2.2.2.2.2.2.2 a_gradeMany a_gKind a_gPurity a_gPrice x_9 u_11.1 i0 p2929 p2930 p2931 p2932 p2933 p2934 p2935 i8 i9 i10 i11 (by omega) (by
        intro i hi
        have f2946 := i10 i
        have f2947 := i13 i
        omega) (by omega) (by omega) p2940 (by omega)
  · have v2948 : HQ ((0 : Int32)).toInt 0 := HQ.mk (by decide)
    have f2949 := neq32k rfl v2948.out c2943
    refine OK_ck (ckV rfl (by omega) (by omega)) ?_
    refine OK_if (fun c2950 => ?_) (fun c2950 => ?_)
    · obtain ⟨m2951, v2952, f2953⟩ := tnV (e := x_9) rfl (by omega)
      have v2954 : HQ ((a_gradeMany ((x_9).toNatClampNeg))).toInt (a_gradeMany m2951).toInt := HQ.mk (by rw [v2952.out])
      have f2955 := i10 m2951
      have f2956 := i13 m2951
      have f2957 := le32k v2954.out v2948.out c2950
      exact sFX7_readGrade_98 n hn v_size v_rb a_text gG u_11.2.1 u_11.2.2.1 u_11.2.2.2.1 u_11.2.2.2.2.1 u_11.2.2.2.2.2.1 u_11.2.2.2.2.2.2.1 u_11.2.2.2.2.2.2.2 a_gradeMany a_gKind a_gPurity a_gPrice x_9 u_11.1 i0 p2929 p2930 p2931 p2932 p2933 p2934 p2935 i8 i9 i10 i11 (by omega) (by
          intro i hi
          have f2958 := i10 i
          have f2959 := i13 i
          have f2960 := congAt a_gradeMany i m2951
          omega) (by omega) (by omega) p2940 (by omega)
    · obtain ⟨m2961, v2962, f2963⟩ := tnV (e := x_9) rfl (by omega)
      have v2964 : HQ ((a_gradeMany ((x_9).toNatClampNeg))).toInt (a_gradeMany m2961).toInt := HQ.mk (by rw [v2962.out])
      have f2965 := i10 m2961
      have f2966 := i13 m2961
      have f2967 := nle32k v2964.out v2948.out c2950
      have v2968 : HQ (((4 : Int32) * x_9)).toInt (4 * (x_9).toInt) := HQ.mk (mulV v2925.out rfl (by omega) (by omega))
      refine OK_ck (ckV v2968.out (by omega) (by omega)) ?_
      refine OK_if (fun c2969 => ?_) (fun c2969 => ?_)
      · obtain ⟨m2970, v2971, f2972⟩ := tnV (e := ((4 : Int32) * x_9)) v2968.out (by omega)
        have v2973 : HQ ((a_gKind ((((4 : Int32) * x_9)).toNatClampNeg))).toInt (a_gKind m2970).toInt := HQ.mk (by rw [v2971.out])
        have f2974 := i11 m2970
        have f2975 := eq32k v2973.out rfl c2969
        exact sFX7_readGrade_98 n hn v_size v_rb a_text gG u_11.2.1 u_11.2.2.1 u_11.2.2.2.1 u_11.2.2.2.2.1 u_11.2.2.2.2.2.1 u_11.2.2.2.2.2.2.1 u_11.2.2.2.2.2.2.2 a_gradeMany a_gKind a_gPurity a_gPrice x_9 u_11.1 i0 p2929 p2930 p2931 p2932 p2933 p2934 p2935 i8 i9 i10 i11 (by omega) (by
            intro i hi
            have f2976 := i10 i
            have f2977 := i13 i
            have f2978 := congAt a_gradeMany i m2961
            omega) (by omega) (by omega) p2940 (by omega)
      · obtain ⟨m2979, v2980, f2981⟩ := tnV (e := ((4 : Int32) * x_9)) v2968.out (by omega)
        have v2982 : HQ ((a_gKind ((((4 : Int32) * x_9)).toNatClampNeg))).toInt (a_gKind m2979).toInt := HQ.mk (by rw [v2980.out])
        have f2983 := i11 m2979
        have f2984 := neq32k v2982.out rfl c2969
        have v2985 : HQ ((5 : Int32)).toInt 5 := HQ.mk (by decide)
        refine OK_bd (sX7_fails n hn u_11.2.1 u_11.2.2.1 (5 : Int32) u_8.2.2.2.1 p2935 (by (rw [v2985.out]) <;> omega)) (fun u_20 p_u_20 => ?_)
        have p2986 := p_u_20
        clear p_u_20
        exact sFX7_readGrade_98 n hn v_size v_rb a_text gG u_20.2.1 u_20.2.2 u_11.2.2.2.1 u_11.2.2.2.2.1 u_11.2.2.2.2.2.1 u_11.2.2.2.2.2.2.1 u_11.2.2.2.2.2.2.2 a_gradeMany a_gKind a_gPurity a_gPrice x_9 u_11.1 i0 p2929 p2930 p2931 p2932 p2933 p2934 (by omega) i8 i9 i10 i11 (by omega) (by
            intro i hi
            have f2987 := i10 i
            have f2988 := i13 i
            have f2989 := congAt a_gradeMany i m2961
            omega) (by omega) (by omega) p2940 (by omega)
set_option maxHeartbeats 2000000 in
theorem sX7_readGrade (n : Nat) (hn : n = 2200000000) (v_size : Int32) (v_faultKind : Int32) (v_faultPlace : Int32) (v_at : Int32) (v_end : Int32) (v_token : Int32) (v_number : Int32) (v_name : Int64) (v_rb : Int32) (a_gradeMany : Nat → Int32) (a_text : Nat → Int32) (a_gKind : Nat → Int32) (a_gPurity : Nat → Int32) (a_gPrice : Nat → Int32) (gG : Int) (i0 : (v_size).toInt ≤ 1200) (i1 : 0 ≤ (v_at).toInt) (i2 : (v_at).toInt ≤ (v_end).toInt) (i3 : (v_end).toInt ≤ (v_size).toInt) (i4 : (v_token).toInt ≠ 0 → (v_at).toInt < (v_end).toInt) (i5 : (v_token).toInt = 4 → (0 ≤ (v_number).toInt ∧ (v_number).toInt ≤ 99999)) (i6 : (v_token).toInt = 4 → (sgv v_size a_text (v_end).toInt < 48 ∨ 57 < sgv v_size a_text (v_end).toInt)) (i7 : 0 ≤ (v_faultKind).toInt) (i8 : 0 ≤ (v_rb).toInt) (i9 : (v_rb).toInt ≤ 1) (i10 : ∀ i : Nat, (i < 8) → (0 ≤ (a_gradeMany i).toInt ∧ (a_gradeMany i).toInt ≤ 4)) (i11 : ∀ i : Nat, (i < 32) → (0 ≤ (a_gKind i).toInt ∧ (a_gKind i).toInt ≤ 4)) (i12 : gG ≤ (v_at).toInt) : OK (FX7_readGrade n v_size v_faultKind v_faultPlace v_at v_end v_token v_number v_name v_rb a_gradeMany a_text a_gKind a_gPurity a_gPrice) (fun u => (0 ≤ (u.2.2.2.1).toInt) ∧ ((u.2.2.2.1).toInt ≤ (u.2.2.2.2.1).toInt) ∧ ((u.2.2.2.2.1).toInt ≤ (v_size).toInt) ∧ ((u.2.2.2.2.2.1).toInt ≠ 0 → (u.2.2.2.1).toInt < (u.2.2.2.2.1).toInt) ∧ ((u.2.2.2.2.2.1).toInt = 4 → (0 ≤ (u.2.2.2.2.2.2.1).toInt ∧ (u.2.2.2.2.2.2.1).toInt ≤ 99999)) ∧ ((u.2.2.2.2.2.1).toInt = 4 → (sgv v_size a_text (u.2.2.2.2.1).toInt < 48 ∨ 57 < sgv v_size a_text (u.2.2.2.2.1).toInt)) ∧ (0 ≤ (u.2.1).toInt) ∧ (∀ i : Nat, (i < 8) → (0 ≤ (u.2.2.2.2.2.2.2.2.1 i).toInt ∧ (u.2.2.2.2.2.2.2.2.1 i).toInt ≤ 4)) ∧ (∀ i : Nat, (i < 32) → (0 ≤ (u.2.2.2.2.2.2.2.2.2.1 i).toInt ∧ (u.2.2.2.2.2.2.2.2.2.1 i).toInt ≤ 4)) ∧ (gG ≤ (u.2.2.2.1).toInt)) := by
  unfold FX7_readGrade
  refine OK_if (fun c2990 => ?_) (fun c2990 => ?_)
  · have v2991 : HQ ((4 : Int32)).toInt 4 := HQ.mk (by decide)
    have f2992 := eq32k rfl v2991.out c2990
    refine OK_if (fun c2993 => ?_) (fun c2993 => ?_)
    · have f2994 := le32k v2991.out rfl c2993
      exact sFX7_readGrade_40 n hn v_size v_rb a_text gG v_faultKind v_faultPlace v_at v_end v_token v_number v_name a_gradeMany a_gKind a_gPurity a_gPrice i0 i1 i2 i3 i4 i5 i6 i7 i8 i9 i10 i11 i12 (by
          intro i hi
          have f2995 := i10 i
          omega)
    · have f2996 := nle32k v2991.out rfl c2993
      have v2997 : HQ (((4 : Int32) * v_rb)).toInt (4 * (v_rb).toInt) := HQ.mk (mulV v2991.out rfl (by omega) (by omega))
      have v2998 : HQ ((((4 : Int32) * v_rb) + v_number)).toInt ((4 * (v_rb).toInt) + (v_number).toInt) := HQ.mk (addV v2997.out rfl (by omega) (by omega))
      refine OK_ck (ckV v2998.out (by omega) (by omega)) ?_
      refine OK_if (fun c2999 => ?_) (fun c2999 => ?_)
      · obtain ⟨m3000, v3001, f3002⟩ := tnV (e := (((4 : Int32) * v_rb) + v_number)) v2998.out (by omega)
        have v3003 : HQ ((a_gradeMany (((((4 : Int32) * v_rb) + v_number)).toNatClampNeg))).toInt (a_gradeMany m3000).toInt := HQ.mk (by rw [v3001.out])
        have f3004 := i10 m3000
        have f3005 := eq32k v3003.out v2991.out c2999
        refine OK_bd (sX7_wrong n hn v_faultKind v_faultPlace v_at v_token i7) (fun u_6 p_u_6 => ?_)
        have p3006 := p_u_6
        clear p_u_6
        exact sFX7_readGrade_40 n hn v_size v_rb a_text gG u_6.2.1 u_6.2.2 v_at v_end v_token v_number v_name a_gradeMany a_gKind a_gPurity a_gPrice i0 i1 i2 i3 i4 i5 i6 (by omega) i8 i9 i10 i11 i12 (by
            intro i hi
            have f3007 := i10 i
            have f3008 := congAt a_gradeMany i m3000
            omega)
      · obtain ⟨m3009, v3010, f3011⟩ := tnV (e := (((4 : Int32) * v_rb) + v_number)) v2998.out (by omega)
        have v3012 : HQ ((a_gradeMany (((((4 : Int32) * v_rb) + v_number)).toNatClampNeg))).toInt (a_gradeMany m3009).toInt := HQ.mk (by rw [v3010.out])
        have f3013 := i10 m3009
        have f3014 := neq32k v3012.out v2991.out c2999
        exact sFX7_readGrade_40 n hn v_size v_rb a_text gG v_faultKind v_faultPlace v_at v_end v_token v_number v_name a_gradeMany a_gKind a_gPurity a_gPrice i0 i1 i2 i3 i4 i5 i6 i7 i8 i9 i10 i11 i12 (by
            intro i hi
            have f3015 := i10 i
            have f3016 := congAt a_gradeMany i m3009
            omega)
  · have v3017 : HQ ((4 : Int32)).toInt 4 := HQ.mk (by decide)
    have f3018 := neq32k rfl v3017.out c2990
    exact sFX7_readGrade_40 n hn v_size v_rb a_text gG v_faultKind v_faultPlace v_at v_end v_token v_number v_name a_gradeMany a_gKind a_gPurity a_gPrice i0 i1 i2 i3 i4 i5 i6 i7 i8 i9 i10 i11 i12 (by
        intro i hi
        have f3019 := i10 i
        omega)
