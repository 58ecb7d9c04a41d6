set_option maxHeartbeats 2000000 in
theorem sFX7_readUnit_43 (n : Nat) (hn : n = 2200000000) (v_size : Int32) (v_rb : Int32) (a_text : Nat → Int32) (gB : Int) (gM : Int) (gG : Int) (v_faultKind : Int32) (v_faultPlace : Int32) (v_at : Int32) (v_end : Int32) (v_token : Int32) (v_number : Int32) (v_name : Int64) (a_unitMany : Nat → Int32) (a_uName : Nat → Int64) (a_yesTo : Nat → Int32) (a_outName : Nat → Int64) (a_outPlace : Nat → Int32) (a_noTo : Nat → Int32) (i0 : (v_size).toInt ≤ 1200) (i1 : 0 ≤ (v_at).toInt) (i2 : (v_at).toInt ≤ (v_end).toInt) (i3 : (v_end).toInt ≤ (v_size).toInt) (i4 : (v_token).toInt ≠ 0 → (v_at).toInt < (v_end).toInt) (i5 : (v_token).toInt = 4 → (0 ≤ (v_number).toInt ∧ (v_number).toInt ≤ 99999)) (i6 : (v_token).toInt = 4 → (sgv v_size a_text (v_end).toInt < 48 ∨ 57 < sgv v_size a_text (v_end).toInt)) (i7 : 0 ≤ (v_faultKind).toInt) (i8 : 0 ≤ (v_rb).toInt) (i9 : (v_rb).toInt ≤ 1) (i10 : gB + (v_rb).toInt = 1) (i11 : 0 ≤ gM) (i12 : gM ≤ 5) (i13 : ∀ i : Nat, (i < 2) → (0 ≤ (a_unitMany i).toInt ∧ (a_unitMany i).toInt ≤ 5)) (i14 : ∀ i : Nat, ((i : Int) = gB) → ((a_unitMany i).toInt = gM)) (i15 : ∀ i : Nat, (i < 10) → ((0 ≤ (a_yesTo i).toInt ∧ (a_yesTo i).toInt ≤ 4) ∨ (10 ≤ (a_yesTo i).toInt ∧ (a_yesTo i).toInt ≤ 13) ∨ (a_yesTo i).toInt = 20 ∨ (a_yesTo i).toInt = 30)) (i16 : ∀ i : Nat, (i < 10) → ((0 ≤ (a_noTo i).toInt ∧ (a_noTo i).toInt ≤ 4) ∨ (10 ≤ (a_noTo i).toInt ∧ (a_noTo i).toInt ≤ 13) ∨ (a_noTo i).toInt = 20 ∨ (a_noTo i).toInt = 30)) (i17 : ∀ i : Nat, (5 * gB ≤ (i : Int) ∧ (i : Int) < 5 * gB + gM) → ((0 ≤ (a_yesTo i).toInt ∧ (a_yesTo i).toInt ≤ 4) ∨ (10 ≤ (a_yesTo i).toInt ∧ (a_yesTo i).toInt ≤ 13) ∨ (a_yesTo i).toInt = 20)) (i18 : ∀ i : Nat, (5 * gB ≤ (i : Int) ∧ (i : Int) < 5 * gB + gM) → ((0 ≤ (a_noTo i).toInt ∧ (a_noTo i).toInt ≤ 4) ∨ (10 ≤ (a_noTo i).toInt ∧ (a_noTo i).toInt ≤ 13) ∨ (a_noTo i).toInt = 20)) (i19 : gG ≤ (v_at).toInt) (i20 : ∀ i : Nat, ((i : Int) = (v_rb).toInt) → ((a_unitMany i).toInt ≤ 4)) : OK (FX7_readUnit_43 n v_size v_rb a_text v_faultKind v_faultPlace v_at v_end v_token v_number v_name a_unitMany a_uName a_yesTo a_outName a_outPlace a_noTo) (fun u => (0 ≤ (u.2.2.2.1).toInt) ∧ ((u.2.2.2.1).toInt ≤ (u.2.2.2.2.1).toInt) ∧ ((u.2.2.2.2.1).toInt ≤ (v_size).toInt) ∧ ((u.2.2.2.2.2.1).toInt ≠ 0 → (u.2.2.2.1).toInt < (u.2.2.2.2.1).toInt) ∧ ((u.2.2.2.2.2.1).toInt = 4 → (0 ≤ (u.2.2.2.2.2.2.1).toInt ∧ (u.2.2.2.2.2.2.1).toInt ≤ 99999)) ∧ ((u.2.2.2.2.2.1).toInt = 4 → (sgv v_size a_text (u.2.2.2.2.1).toInt < 48 ∨ 57 < sgv v_size a_text (u.2.2.2.2.1).toInt)) ∧ (0 ≤ (u.2.1).toInt) ∧ (∀ i : Nat, (i < 2) → (0 ≤ (u.2.2.2.2.2.2.2.2.1 i).toInt ∧ (u.2.2.2.2.2.2.2.2.1 i).toInt ≤ 5)) ∧ (∀ i : Nat, ((i : Int) = gB) → ((u.2.2.2.2.2.2.2.2.1 i).toInt = gM)) ∧ (∀ i : Nat, (i < 10) → ((0 ≤ (u.2.2.2.2.2.2.2.2.2.2.1 i).toInt ∧ (u.2.2.2.2.2.2.2.2.2.2.1 i).toInt ≤ 4) ∨ (10 ≤ (u.2.2.2.2.2.2.2.2.2.2.1 i).toInt ∧ (u.2.2.2.2.2.2.2.2.2.2.1 i).toInt ≤ 13) ∨ (u.2.2.2.2.2.2.2.2.2.2.1 i).toInt = 20 ∨ (u.2.2.2.2.2.2.2.2.2.2.1 i).toInt = 30)) ∧ (∀ i : Nat, (i < 10) → ((0 ≤ (u.2.2.2.2.2.2.2.2.2.2.2.2.2 i).toInt ∧ (u.2.2.2.2.2.2.2.2.2.2.2.2.2 i).toInt ≤ 4) ∨ (10 ≤ (u.2.2.2.2.2.2.2.2.2.2.2.2.2 i).toInt ∧ (u.2.2.2.2.2.2.2.2.2.2.2.2.2 i).toInt ≤ 13) ∨ (u.2.2.2.2.2.2.2.2.2.2.2.2.2 i).toInt = 20 ∨ (u.2.2.2.2.2.2.2.2.2.2.2.2.2 i).toInt = 30)) ∧ (∀ i : Nat, (5 * gB ≤ (i : Int) ∧ (i : Int) < 5 * gB + gM) → ((0 ≤ (u.2.2.2.2.2.2.2.2.2.2.1 i).toInt ∧ (u.2.2.2.2.2.2.2.2.2.2.1 i).toInt ≤ 4) ∨ (10 ≤ (u.2.2.2.2.2.2.2.2.2.2.1 i).toInt ∧ (u.2.2.2.2.2.2.2.2.2.2.1 i).toInt ≤ 13) ∨ (u.2.2.2.2.2.2.2.2.2.2.1 i).toInt = 20)) ∧ (∀ i : Nat, (5 * gB ≤ (i : Int) ∧ (i : Int) < 5 * gB + gM) → ((0 ≤ (u.2.2.2.2.2.2.2.2.2.2.2.2.2 i).toInt ∧ (u.2.2.2.2.2.2.2.2.2.2.2.2.2 i).toInt ≤ 4) ∨ (10 ≤ (u.2.2.2.2.2.2.2.2.2.2.2.2.2 i).toInt ∧ (u.2.2.2.2.2.2.2.2.2.2.2.2.2 i).toInt ≤ 13) ∨ (u.2.2.2.2.2.2.2.2.2.2.2.2.2 i).toInt = 20)) ∧ (gG ≤ (u.2.2.2.1).toInt)) := by
  unfold FX7_readUnit_43
  replace i4 : HP _ := i4
  replace i5 : HP _ := i5
  replace i6 : HP _ := i6
  refine OK_bd (sX7_isGood n hn v_faultKind) (fun u_13 p_u_13 => ?_)
  have p3020 := p_u_13
  clear p_u_13
  replace p3020 : HP _ := p3020
  refine OK_if (fun c3021 => ?_) (fun c3021 => ?_)
  · have v3022 : HQ ((0 : Int32)).toInt 0 := HQ.mk (by decide)
    have f3023 := eq32k rfl v3022.out c3021
    exact OK_some (show (0 ≤ (v_at).toInt) ∧ ((v_at).toInt ≤ (v_end).toInt) ∧ ((v_end).toInt ≤ (v_size).toInt) ∧ ((v_token).toInt ≠ 0 → (v_at).toInt < (v_end).toInt) ∧ ((v_token).toInt = 4 → (0 ≤ (v_number).toInt ∧ (v_number).toInt ≤ 99999)) ∧ ((v_token).toInt = 4 → (sgv v_size a_text (v_end).toInt < 48 ∨ 57 < sgv v_size a_text (v_end).toInt)) ∧ (0 ≤ (v_faultKind).toInt) ∧ (∀ i : Nat, (i < 2) → (0 ≤ (a_unitMany i).toInt ∧ (a_unitMany i).toInt ≤ 5)) ∧ (∀ i : Nat, ((i : Int) = gB) → ((a_unitMany i).toInt = gM)) ∧ (∀ i : Nat, (i < 10) → ((0 ≤ (a_yesTo i).toInt ∧ (a_yesTo i).toInt ≤ 4) ∨ (10 ≤ (a_yesTo i).toInt ∧ (a_yesTo i).toInt ≤ 13) ∨ (a_yesTo i).toInt = 20 ∨ (a_yesTo i).toInt = 30)) ∧ (∀ i : Nat, (i < 10) → ((0 ≤ (a_noTo i).toInt ∧ (a_noTo i).toInt ≤ 4) ∨ (10 ≤ (a_noTo i).toInt ∧ (a_noTo i).toInt ≤ 13) ∨ (a_noTo i).toInt = 20 ∨ (a_noTo i).toInt = 30)) ∧ (∀ i : Nat, (5 * gB ≤ (i : Int) ∧ (i : Int) < 5 * gB + gM) → ((0 ≤ (a_yesTo i).toInt ∧ (a_yesTo i).toInt ≤ 4) ∨ (10 ≤ (a_yesTo i).toInt ∧ (a_yesTo i).toInt ≤ 13) ∨ (a_yesTo i).toInt = 20)) ∧ (∀ i : Nat, (5 * gB ≤ (i : Int) ∧ (i : Int) < 5 * gB + gM) → ((0 ≤ (a_noTo i).toInt ∧ (a_noTo i).toInt ≤ 4) ∨ (10 ≤ (a_noTo i).toInt ∧ (a_noTo i).toInt ≤ 13) ∨ (a_noTo i).toInt = 20)) ∧ (gG ≤ (v_at).toInt) from ⟨i1, i2, i3, i4, i5, i6, i7, i13, i14, i15, i16, i17, i18, i19⟩)
  · have v3024 : HQ ((0 : Int32)).toInt 0 := HQ.mk (by decide)
    have f3025 := neq32k rfl v3024.out c3021
    refine OK_ck (ckV rfl (by (first | omega | (unfold HP at *; omega))) (by (first | omega | (unfold HP at *; omega)))) ?_
    have v3026 : HQ ((5 : Int32)).toInt 5 := HQ.mk (by decide)
    have v3027 : HQ (((5 : Int32) * v_rb)).toInt (5 * (v_rb).toInt) := HQ.mk (mulV v3026.out rfl (by (first | omega | (unfold HP at *; omega))) (by (first | omega | (unfold HP at *; omega))))
    obtain ⟨m3028, v3029, f3030⟩ := tnV (e := v_rb) rfl (by (first | omega | (unfold HP at *; omega)))
    have v3031 : HQ ((a_unitMany ((v_rb).toNatClampNeg))).toInt (a_unitMany m3028).toInt := HQ.mk (by rw [v3029.out])
    have f3032 := i13 m3028
    have f3033 := i14 m3028
    have f3034 := i20 m3028
    have v3035 : HQ ((((5 : Int32) * v_rb) + (a_unitMany ((v_rb).toNatClampNeg)))).toInt ((5 * (v_rb).toInt) + (a_unitMany m3028).toInt) := HQ.mk (addV v3027.out v3031.out (by (first | omega | (unfold HP at *; omega))) (by (first | omega | (unfold HP at *; omega))))
    refine OK_lt (fun x_16 e_x_16 => ?_)
    have f3036 : (x_16).toInt = ((5 * (v_rb).toInt) + (a_unitMany m3028).toInt) := by rw [e_x_16]; exact v3035.out
    refine OK_ck (ckV rfl (by (first | omega | (unfold HP at *; omega))) (by (first | omega | (unfold HP at *; omega)))) ?_
    obtain ⟨m3037, v3038, f3039⟩ := tnV (e := x_16) rfl (by (first | omega | (unfold HP at *; omega)))
    refine OK_lt (fun f_18 e_f_18 => ?_)
    rw [v3038.out] at e_f_18
    refine OK_ck (ckV rfl (by (first | omega | (unfold HP at *; omega))) (by (first | omega | (unfold HP at *; omega)))) ?_
    have v3040 : HQ ((1 : Int32)).toInt 1 := HQ.mk (by decide)
    have v3041 : HQ (((a_unitMany ((v_rb).toNatClampNeg)) + (1 : Int32))).toInt ((a_unitMany m3028).toInt + 1) := HQ.mk (addV v3031.out v3040.out (by (first | omega | (unfold HP at *; omega))) (by (first | omega | (unfold HP at *; omega))))
    refine OK_lt (fun x_20 e_x_20 => ?_)
    have f3042 : (x_20).toInt = ((a_unitMany m3028).toInt + 1) := by rw [e_x_20]; exact v3041.out
    refine OK_ck (ckV rfl (by (first | omega | (unfold HP at *; omega))) (by (first | omega | (unfold HP at *; omega)))) ?_
    refine OK_lt (fun f_22 e_f_22 => ?_)
    rw [v3029.out] at e_f_22
    refine OK_bd (sX7_next n hn v_size v_at v_end v_token v_number v_name a_text ((v_end).toInt) ((v_token).toInt) (by (first | omega | (unfold HP at *; omega))) i3 i0 (by (first | omega | (unfold HP at *; omega))) (by (first | omega | (unfold HP at *; omega))) (by (first | omega | (unfold HP at *; omega)))) (fun u_24 p_u_24 => ?_)
    obtain ⟨p3043, p3044, p3045, p3046, p3047, p3048, p3049⟩ := p_u_24
    replace p3046 : HP _ := p3046
    replace p3047 : HP _ := p3047
    replace p3048 : HP _ := p3048
    replace p3049 : HP _ := p3049
    refine OK_bd (sX7_isWord n hn u_24.2.2.2.1 u_24.2.2.2.2.2 (7955827 : Int64)) (fun u_26 p_u_26 => ?_)
    have p3050 := p_u_26
    clear p_u_26
    replace p3050 : HP _ := p3050
    refine OK_bd (sX7_must n hn v_size v_faultKind v_faultPlace u_24.2.1 u_24.2.2.1 u_24.2.2.2.1 u_24.2.2.2.2.1 u_24.2.2.2.2.2 a_text u_26.1 i0 (by (first | omega | (unfold HP at *; omega))) p3044 p3045 p3046 p3047 p3048 i7) (fun u_28 p_u_28 => ?_)
    obtain ⟨p3051, p3052, p3053, p3054, p3055, p3056, p3057, p3058, p3059⟩ := p_u_28
    replace p3054 : HP _ := p3054
    replace p3055 : HP _ := p3055
    replace p3056 : HP _ := p3056
    replace p3059 : HP _ := p3059
    have v3060 : HQ ((2 : Int32)).toInt 2 := HQ.mk (by decide)
    have v3061 : HQ ((x_16 - ((5 : Int32) * v_rb))).toInt ((x_16).toInt - (5 * (v_rb).toInt)) := HQ.mk (subV rfl v3027.out (by (first | omega | (unfold HP at *; omega))) (by (first | omega | (unfold HP at *; omega))))
    have v3062 : HQ (((2 : Int32) * (x_16 - ((5 : Int32) * v_rb)))).toInt (2 * ((x_16).toInt - (5 * (v_rb).toInt))) := HQ.mk (mulV v3060.out v3061.out (by (first | omega | (unfold HP at *; omega))) (by (first | omega | (unfold HP at *; omega))))
    refine OK_bd (sX7_out n hn v_size u_28.2.1 u_28.2.2.1 u_28.2.2.2.1 u_28.2.2.2.2.1 u_28.2.2.2.2.2.1 u_28.2.2.2.2.2.2.1 u_28.2.2.2.2.2.2.2 a_outName a_outPlace a_text ((2 : Int32) * (x_16 - ((5 : Int32) * v_rb))) i0 p3051 p3052 p3053 p3054 p3055 p3056 p3057 (by (rw [v3062.out]) <;> (first | omega | (unfold HP at *; omega))) (by (rw [v3062.out]) <;> (first | omega | (unfold HP at *; omega)))) (fun u_30 p_u_30 => ?_)
    obtain ⟨p3063, p3064, p3065, p3066, p3067, p3068, p3069, p3070, p3071, p3072⟩ := p_u_30
    replace p3066 : HP _ := p3066
    replace p3067 : HP _ := p3067
    replace p3068 : HP _ := p3068
    replace p3071 : HP _ := p3071
    refine OK_ck (ckV rfl (by (first | omega | (unfold HP at *; omega))) (by (first | omega | (unfold HP at *; omega)))) ?_
    refine OK_lt (fun f_32 e_f_32 => ?_)
    rw [v3038.out] at e_f_32
    refine OK_bd (sX7_isWord n hn u_30.2.2.2.2.2.1 u_30.2.2.2.2.2.2.2.1 (28271 : Int64)) (fun u_34 p_u_34 => ?_)
    have p3073 := p_u_34
    clear p_u_34
    replace p3073 : HP _ := p3073
    refine OK_bd (sX7_must n hn v_size u_30.2.1 u_30.2.2.1 u_30.2.2.2.1 u_30.2.2.2.2.1 u_30.2.2.2.2.2.1 u_30.2.2.2.2.2.2.1 u_30.2.2.2.2.2.2.2.1 a_text u_34.1 i0 p3063 p3064 p3065 p3066 p3067 p3068 p3069) (fun u_36 p_u_36 => ?_)
    obtain ⟨p3074, p3075, p3076, p3077, p3078, p3079, p3080, p3081, p3082⟩ := p_u_36
    replace p3077 : HP _ := p3077
    replace p3078 : HP _ := p3078
    replace p3079 : HP _ := p3079
    replace p3082 : HP _ := p3082
    have v3083 : HQ ((((2 : Int32) * (x_16 - ((5 : Int32) * v_rb))) + (1 : Int32))).toInt ((2 * ((x_16).toInt - (5 * (v_rb).toInt))) + 1) := HQ.mk (addV v3062.out v3040.out (by (first | omega | (unfold HP at *; omega))) (by (first | omega | (unfold HP at *; omega))))
    refine OK_bd (sX7_out n hn v_size u_36.2.1 u_36.2.2.1 u_36.2.2.2.1 u_36.2.2.2.2.1 u_36.2.2.2.2.2.1 u_36.2.2.2.2.2.2.1 u_36.2.2.2.2.2.2.2 u_30.2.2.2.2.2.2.2.2.1 u_30.2.2.2.2.2.2.2.2.2 a_text (((2 : Int32) * (x_16 - ((5 : Int32) * v_rb))) + (1 : Int32)) i0 p3074 p3075 p3076 p3077 p3078 p3079 p3080 (by (rw [v3083.out]) <;> (first | omega | (unfold HP at *; omega))) (by (rw [v3083.out]) <;> (first | omega | (unfold HP at *; omega)))) (fun u_38 p_u_38 => ?_)
    obtain ⟨p3084, p3085, p3086, p3087, p3088, p3089, p3090, p3091, p3092, p3093⟩ := p_u_38
    replace p3087 : HP _ := p3087
    replace p3088 : HP _ := p3088
    replace p3089 : HP _ := p3089
    replace p3092 : HP _ := p3092
    refine OK_ck (ckV rfl (by (first | omega | (unfold HP at *; omega))) (by (first | omega | (unfold HP at *; omega)))) ?_
    refine OK_lt (fun f_40 e_f_40 => ?_)
    rw [v3038.out] at e_f_40
    exact OK_some (show (0 ≤ (u_38.2.2.2.1).toInt) ∧ ((u_38.2.2.2.1).toInt ≤ (u_38.2.2.2.2.1).toInt) ∧ ((u_38.2.2.2.2.1).toInt ≤ (v_size).toInt) ∧ ((u_38.2.2.2.2.2.1).toInt ≠ 0 → (u_38.2.2.2.1).toInt < (u_38.2.2.2.2.1).toInt) ∧ ((u_38.2.2.2.2.2.1).toInt = 4 → (0 ≤ (u_38.2.2.2.2.2.2.1).toInt ∧ (u_38.2.2.2.2.2.2.1).toInt ≤ 99999)) ∧ ((u_38.2.2.2.2.2.1).toInt = 4 → (sgv v_size a_text (u_38.2.2.2.2.1).toInt < 48 ∨ 57 < sgv v_size a_text (u_38.2.2.2.2.1).toInt)) ∧ (0 ≤ (u_38.2.1).toInt) ∧ (∀ i : Nat, (i < 2) → (0 ≤ (f_22 i).toInt ∧ (f_22 i).toInt ≤ 5)) ∧ (∀ i : Nat, ((i : Int) = gB) → ((f_22 i).toInt = gM)) ∧ (∀ i : Nat, (i < 10) → ((0 ≤ (f_32 i).toInt ∧ (f_32 i).toInt ≤ 4) ∨ (10 ≤ (f_32 i).toInt ∧ (f_32 i).toInt ≤ 13) ∨ (f_32 i).toInt = 20 ∨ (f_32 i).toInt = 30)) ∧ (∀ i : Nat, (i < 10) → ((0 ≤ (f_40 i).toInt ∧ (f_40 i).toInt ≤ 4) ∨ (10 ≤ (f_40 i).toInt ∧ (f_40 i).toInt ≤ 13) ∨ (f_40 i).toInt = 20 ∨ (f_40 i).toInt = 30)) ∧ (∀ i : Nat, (5 * gB ≤ (i : Int) ∧ (i : Int) < 5 * gB + gM) → ((0 ≤ (f_32 i).toInt ∧ (f_32 i).toInt ≤ 4) ∨ (10 ≤ (f_32 i).toInt ∧ (f_32 i).toInt ≤ 13) ∨ (f_32 i).toInt = 20)) ∧ (∀ i : Nat, (5 * gB ≤ (i : Int) ∧ (i : Int) < 5 * gB + gM) → ((0 ≤ (f_40 i).toInt ∧ (f_40 i).toInt ≤ 4) ∨ (10 ≤ (f_40 i).toInt ∧ (f_40 i).toInt ≤ 13) ∨ (f_40 i).toInt = 20)) ∧ (gG ≤ (u_38.2.2.2.1).toInt) from ⟨p3084, p3085, p3086, p3087, p3088, p3089, p3090, (by
        intro i hi
        have f3094 := updW e_f_22 rfl i
        have f3095 := i13 i
        have f3096 := i14 i
        have f3097 := i20 i
        have f3098 := congAt a_unitMany i m3028
        (first | omega | (unfold HP at *; omega))), (by
        intro i hi
        have f3099 := updW e_f_22 rfl i
        have f3100 := i13 i
        have f3101 := i14 i
        have f3102 := i20 i
        have f3103 := congAt a_unitMany i m3028
        (first | omega | (unfold HP at *; omega))), (by
        intro i hi
        have f3104 := updW e_f_32 rfl i
        have f3105 := i15 i
        have f3106 := i17 i
        (first | omega | (unfold HP at *; omega))), (by
        intro i hi
        have f3107 := updW e_f_40 rfl i
        have f3108 := i16 i
        have f3109 := i18 i
        (first | omega | (unfold HP at *; omega))), (by
        intro i hi
        have f3110 := updW e_f_32 rfl i
        have f3111 := i15 i
        have f3112 := i17 i
        (first | omega | (unfold HP at *; omega))), (by
        intro i hi
        have f3113 := updW e_f_40 rfl i
        have f3114 := i16 i
        have f3115 := i18 i
        (first | omega | (unfold HP at *; omega))), (by (first | omega | (unfold HP at *; omega)))⟩)
set_option maxHeartbeats 2000000 in
theorem sFX7_readUnit_12 (n : Nat) (hn : n = 2200000000) (v_size : Int32) (v_rb : Int32) (a_text : Nat → Int32) (gB : Int) (gM : Int) (gG : Int) (v_faultKind : Int32) (v_faultPlace : Int32) (v_at : Int32) (v_end : Int32) (v_token : Int32) (v_number : Int32) (v_name : Int64) (a_unitMany : Nat → Int32) (a_uName : Nat → Int64) (a_yesTo : Nat → Int32) (a_outName : Nat → Int64) (a_outPlace : Nat → Int32) (a_noTo : Nat → Int32) (i0 : (v_size).toInt ≤ 1200) (i1 : 0 ≤ (v_at).toInt) (i2 : (v_at).toInt ≤ (v_end).toInt) (i3 : (v_end).toInt ≤ (v_size).toInt) (i4 : (v_token).toInt ≠ 0 → (v_at).toInt < (v_end).toInt) (i5 : (v_token).toInt = 4 → (0 ≤ (v_number).toInt ∧ (v_number).toInt ≤ 99999)) (i6 : (v_token).toInt = 4 → (sgv v_size a_text (v_end).toInt < 48 ∨ 57 < sgv v_size a_text (v_end).toInt)) (i7 : 0 ≤ (v_faultKind).toInt) (i8 : 0 ≤ (v_rb).toInt) (i9 : (v_rb).toInt ≤ 1) (i10 : gB + (v_rb).toInt = 1) (i11 : 0 ≤ gM) (i12 : gM ≤ 5) (i13 : ∀ i : Nat, (i < 2) → (0 ≤ (a_unitMany i).toInt ∧ (a_unitMany i).toInt ≤ 5)) (i14 : ∀ i : Nat, ((i : Int) = gB) → ((a_unitMany i).toInt = gM)) (i15 : ∀ i : Nat, (i < 10) → ((0 ≤ (a_yesTo i).toInt ∧ (a_yesTo i).toInt ≤ 4) ∨ (10 ≤ (a_yesTo i).toInt ∧ (a_yesTo i).toInt ≤ 13) ∨ (a_yesTo i).toInt = 20 ∨ (a_yesTo i).toInt = 30)) (i16 : ∀ i : Nat, (i < 10) → ((0 ≤ (a_noTo i).toInt ∧ (a_noTo i).toInt ≤ 4) ∨ (10 ≤ (a_noTo i).toInt ∧ (a_noTo i).toInt ≤ 13) ∨ (a_noTo i).toInt = 20 ∨ (a_noTo i).toInt = 30)) (i17 : ∀ i : Nat, (5 * gB ≤ (i : Int) ∧ (i : Int) < 5 * gB + gM) → ((0 ≤ (a_yesTo i).toInt ∧ (a_yesTo i).toInt ≤ 4) ∨ (10 ≤ (a_yesTo i).toInt ∧ (a_yesTo i).toInt ≤ 13) ∨ (a_yesTo i).toInt = 20)) (i18 : ∀ i : Nat, (5 * gB ≤ (i : Int) ∧ (i : Int) < 5 * gB + gM) → ((0 ≤ (a_noTo i).toInt ∧ (a_noTo i).toInt ≤ 4) ∨ (10 ≤ (a_noTo i).toInt ∧ (a_noTo i).toInt ≤ 13) ∨ (a_noTo i).toInt = 20)) (i19 : gG ≤ (v_at).toInt) (i20 : ∀ i : Nat, ((i : Int) = (v_rb).toInt) → ((a_unitMany i).toInt ≤ 4)) : OK (FX7_readUnit_12 n v_size v_rb a_text v_faultKind v_faultPlace v_at v_end v_token v_number v_name a_unitMany a_uName a_yesTo a_outName a_outPlace a_noTo) (fun u => (0 ≤ (u.2.2.2.1).toInt) ∧ ((u.2.2.2.1).toInt ≤ (u.2.2.2.2.1).toInt) ∧ ((u.2.2.2.2.1).toInt ≤ (v_size).toInt) ∧ ((u.2.2.2.2.2.1).toInt ≠ 0 → (u.2.2.2.1).toInt < (u.2.2.2.2.1).toInt) ∧ ((u.2.2.2.2.2.1).toInt = 4 → (0 ≤ (u.2.2.2.2.2.2.1).toInt ∧ (u.2.2.2.2.2.2.1).toInt ≤ 99999)) ∧ ((u.2.2.2.2.2.1).toInt = 4 → (sgv v_size a_text (u.2.2.2.2.1).toInt < 48 ∨ 57 < sgv v_size a_text (u.2.2.2.2.1).toInt)) ∧ (0 ≤ (u.2.1).toInt) ∧ (∀ i : Nat, (i < 2) → (0 ≤ (u.2.2.2.2.2.2.2.2.1 i).toInt ∧ (u.2.2.2.2.2.2.2.2.1 i).toInt ≤ 5)) ∧ (∀ i : Nat, ((i : Int) = gB) → ((u.2.2.2.2.2.2.2.2.1 i).toInt = gM)) ∧ (∀ i : Nat, (i < 10) → ((0 ≤ (u.2.2.2.2.2.2.2.2.2.2.1 i).toInt ∧ (u.2.2.2.2.2.2.2.2.2.2.1 i).toInt ≤ 4) ∨ (10 ≤ (u.2.2.2.2.2.2.2.2.2.2.1 i).toInt ∧ (u.2.2.2.2.2.2.2.2.2.2.1 i).toInt ≤ 13) ∨ (u.2.2.2.2.2.2.2.2.2.2.1 i).toInt = 20 ∨ (u.2.2.2.2.2.2.2.2.2.2.1 i).toInt = 30)) ∧ (∀ i : Nat, (i < 10) → ((0 ≤ (u.2.2.2.2.2.2.2.2.2.2.2.2.2 i).toInt ∧ (u.2.2.2.2.2.2.2.2.2.2.2.2.2 i).toInt ≤ 4) ∨ (10 ≤ (u.2.2.2.2.2.2.2.2.2.2.2.2.2 i).toInt ∧ (u.2.2.2.2.2.2.2.2.2.2.2.2.2 i).toInt ≤ 13) ∨ (u.2.2.2.2.2.2.2.2.2.2.2.2.2 i).toInt = 20 ∨ (u.2.2.2.2.2.2.2.2.2.2.2.2.2 i).toInt = 30)) ∧ (∀ i : Nat, (5 * gB ≤ (i : Int) ∧ (i : Int) < 5 * gB + gM) → ((0 ≤ (u.2.2.2.2.2.2.2.2.2.2.1 i).toInt ∧ (u.2.2.2.2.2.2.2.2.2.2.1 i).toInt ≤ 4) ∨ (10 ≤ (u.2.2.2.2.2.2.2.2.2.2.1 i).toInt ∧ (u.2.2.2.2.2.2.2.2.2.2.1 i).toInt ≤ 13) ∨ (u.2.2.2.2.2.2.2.2.2.2.1 i).toInt = 20)) ∧ (∀ i : Nat, (5 * gB ≤ (i : Int) ∧ (i : Int) < 5 * gB + gM) → ((0 ≤ (u.2.2.2.2.2.2.2.2.2.2.2.2.2 i).toInt ∧ (u.2.2.2.2.2.2.2.2.2.2.2.2.2 i).toInt ≤ 4) ∨ (10 ≤ (u.2.2.2.2.2.2.2.2.2.2.2.2.2 i).toInt ∧ (u.2.2.2.2.2.2.2.2.2.2.2.2.2 i).toInt ≤ 13) ∨ (u.2.2.2.2.2.2.2.2.2.2.2.2.2 i).toInt = 20)) ∧ (gG ≤ (u.2.2.2.1).toInt)) := by
  unfold FX7_readUnit_12
  replace i4 : HP _ := i4
  replace i5 : HP _ := i5
  replace i6 : HP _ := i6
  obtain ⟨m3116, v3117, f3118⟩ := tnV (e := v_rb) rfl (by (first | omega | (unfold HP at *; omega)))
  have v3119 : HQ ((a_unitMany ((v_rb).toNatClampNeg))).toInt (a_unitMany m3116).toInt := HQ.mk (by rw [v3117.out])
  have f3120 := i13 m3116
  have f3121 := i14 m3116
  have f3122 := i20 m3116
  have f3123 := v3119.out
  refine OK_bd (sX7_isGood n hn v_faultKind) (fun u_5 p_u_5 => ?_)
  have p3124 := p_u_5
  clear p_u_5
  replace p3124 : HP _ := p3124
  refine OK_if (fun c3125 => ?_) (fun c3125 => ?_)
  · have v3126 : HQ ((0 : Int32)).toInt 0 := HQ.mk (by decide)
    have f3127 := eq32k rfl v3126.out c3125
    exact sFX7_readUnit_43 n hn v_size v_rb a_text gB gM gG v_faultKind v_faultPlace v_at v_end v_token v_number v_name a_unitMany a_uName a_yesTo a_outName a_outPlace a_noTo i0 i1 i2 i3 i4 i5 i6 i7 i8 i9 i10 i11 i12 i13 i14 i15 i16 i17 i18 i19 i20
  · have v3128 : HQ ((0 : Int32)).toInt 0 := HQ.mk (by decide)
    have f3129 := neq32k rfl v3128.out c3125
    refine OK_bd (sX7_unitOf n hn a_unitMany a_uName v_rb v_name ((a_unitMany (v_rb).toNatClampNeg).toInt) i8 i9 i13 (by
        intro i hi
        try simp only [v3117.out] at hi
        try simp only [v3117.out]
        have f3130 := i13 i
        have f3131 := i14 i
        have f3132 := i20 i
        have f3133 := congAt a_unitMany i m3116
        (first | omega | (unfold HP at *; omega))) (by (try simp only [v3117.out]) <;> (first | omega | (unfold HP at *; omega))) (by (try simp only [v3117.out]) <;> (first | omega | (unfold HP at *; omega)))) (fun u_8 p_u_8 => ?_)
    obtain ⟨p3134, p3135, p3136, c_un⟩ := p_u_8
    replace p3135 : HP _ := p3135
    replace c_un : HP _ := c_un
    refine OK_if (fun c3137 => ?_) (fun c3137 => ?_)
    · have f3138 := lt32k rfl v3128.out c3137
      exact sFX7_readUnit_43 n hn v_size v_rb a_text gB gM gG v_faultKind v_faultPlace v_at v_end v_token v_number v_name a_unitMany a_uName a_yesTo a_outName a_outPlace a_noTo i0 i1 i2 i3 i4 i5 i6 i7 i8 i9 i10 i11 i12 i13 i14 i15 i16 i17 i18 i19 i20
    · have f3139 := nlt32k rfl v3128.out c3137
      have v3140 : HQ ((3 : Int32)).toInt 3 := HQ.mk (by decide)
      refine OK_bd (sX7_fails n hn v_faultKind v_faultPlace (3 : Int32) v_at i7 (by (rw [v3140.out]) <;> (first | omega | (unfold HP at *; omega)))) (fun u_11 p_u_11 => ?_)
      have p3141 := p_u_11
      clear p_u_11
      exact sFX7_readUnit_43 n hn v_size v_rb a_text gB gM gG u_11.2.1 u_11.2.2 v_at v_end v_token v_number v_name a_unitMany a_uName a_yesTo a_outName a_outPlace a_noTo i0 i1 i2 i3 i4 i5 i6 (by (first | omega | (unfold HP at *; omega))) i8 i9 i10 i11 i12 i13 i14 i15 i16 i17 i18 i19 i20
set_option maxHeartbeats 2000000 in
theorem sX7_readUnit (n : Nat) (hn : n = 2200000000) (v_size : Int32) (v_faultKind : Int32) (v_faultPlace : Int32) (v_at : Int32) (v_end : Int32) (v_token : Int32) (v_number : Int32) (v_name : Int64) (v_rb : Int32) (a_unitMany : Nat → Int32) (a_uName : Nat → Int64) (a_text : Nat → Int32) (a_yesTo : Nat → Int32) (a_outName : Nat → Int64) (a_outPlace : Nat → Int32) (a_noTo : Nat → Int32) (gB : Int) (gM : Int) (gG : Int) (i0 : (v_size).toInt ≤ 1200) (i1 : 0 ≤ (v_at).toInt) (i2 : (v_at).toInt ≤ (v_end).toInt) (i3 : (v_end).toInt ≤ (v_size).toInt) (i4 : (v_token).toInt ≠ 0 → (v_at).toInt < (v_end).toInt) (i5 : (v_token).toInt = 4 → (0 ≤ (v_number).toInt ∧ (v_number).toInt ≤ 99999)) (i6 : (v_token).toInt = 4 → (sgv v_size a_text (v_end).toInt < 48 ∨ 57 < sgv v_size a_text (v_end).toInt)) (i7 : 0 ≤ (v_faultKind).toInt) (i8 : 0 ≤ (v_rb).toInt) (i9 : (v_rb).toInt ≤ 1) (i10 : gB + (v_rb).toInt = 1) (i11 : 0 ≤ gM) (i12 : gM ≤ 5) (i13 : ∀ i : Nat, (i < 2) → (0 ≤ (a_unitMany i).toInt ∧ (a_unitMany i).toInt ≤ 5)) (i14 : ∀ i : Nat, ((i : Int) = gB) → ((a_unitMany i).toInt = gM)) (i15 : ∀ i : Nat, (i < 10) → ((0 ≤ (a_yesTo i).toInt ∧ (a_yesTo i).toInt ≤ 4) ∨ (10 ≤ (a_yesTo i).toInt ∧ (a_yesTo i).toInt ≤ 13) ∨ (a_yesTo i).toInt = 20 ∨ (a_yesTo i).toInt = 30)) (i16 : ∀ i : Nat, (i < 10) → ((0 ≤ (a_noTo i).toInt ∧ (a_noTo i).toInt ≤ 4) ∨ (10 ≤ (a_noTo i).toInt ∧ (a_noTo i).toInt ≤ 13) ∨ (a_noTo i).toInt = 20 ∨ (a_noTo i).toInt = 30)) (i17 : ∀ i : Nat, (5 * gB ≤ (i : Int) ∧ (i : Int) < 5 * gB + gM) → ((0 ≤ (a_yesTo i).toInt ∧ (a_yesTo i).toInt ≤ 4) ∨ (10 ≤ (a_yesTo i).toInt ∧ (a_yesTo i).toInt ≤ 13) ∨ (a_yesTo i).toInt = 20)) (i18 : ∀ i : Nat, (5 * gB ≤ (i : Int) ∧ (i : Int) < 5 * gB + gM) → ((0 ≤ (a_noTo i).toInt ∧ (a_noTo i).toInt ≤ 4) ∨ (10 ≤ (a_noTo i).toInt ∧ (a_noTo i).toInt ≤ 13) ∨ (a_noTo i).toInt = 20)) (i19 : gG ≤ (v_at).toInt) (i20 : ∀ i : Nat, ((i : Int) = (v_rb).toInt) → ((a_unitMany i).toInt ≤ 4)) : OK (FX7_readUnit n v_size v_faultKind v_faultPlace v_at v_end v_token v_number v_name v_rb a_unitMany a_uName a_text a_yesTo a_outName a_outPlace a_noTo) (fun u => (0 ≤ (u.2.2.2.1).toInt) ∧ ((u.2.2.2.1).toInt ≤ (u.2.2.2.2.1).toInt) ∧ ((u.2.2.2.2.1).toInt ≤ (v_size).toInt) ∧ ((u.2.2.2.2.2.1).toInt ≠ 0 → (u.2.2.2.1).toInt < (u.2.2.2.2.1).toInt) ∧ ((u.2.2.2.2.2.1).toInt = 4 → (0 ≤ (u.2.2.2.2.2.2.1).toInt ∧ (u.2.2.2.2.2.2.1).toInt ≤ 99999)) ∧ ((u.2.2.2.2.2.1).toInt = 4 → (sgv v_size a_text (u.2.2.2.2.1).toInt < 48 ∨ 57 < sgv v_size a_text (u.2.2.2.2.1).toInt)) ∧ (0 ≤ (u.2.1).toInt) ∧ (∀ i : Nat, (i < 2) → (0 ≤ (u.2.2.2.2.2.2.2.2.1 i).toInt ∧ (u.2.2.2.2.2.2.2.2.1 i).toInt ≤ 5)) ∧ (∀ i : Nat, ((i : Int) = gB) → ((u.2.2.2.2.2.2.2.2.1 i).toInt = gM)) ∧ (∀ i : Nat, (i < 10) → ((0 ≤ (u.2.2.2.2.2.2.2.2.2.2.1 i).toInt ∧ (u.2.2.2.2.2.2.2.2.2.2.1 i).toInt ≤ 4) ∨ (10 ≤ (u.2.2.2.2.2.2.2.2.2.2.1 i).toInt ∧ (u.2.2.2.2.2.2.2.2.2.2.1 i).toInt ≤ 13) ∨ (u.2.2.2.2.2.2.2.2.2.2.1 i).toInt = 20 ∨ (u.2.2.2.2.2.2.2.2.2.2.1 i).toInt = 30)) ∧ (∀ i : Nat, (i < 10) → ((0 ≤ (u.2.2.2.2.2.2.2.2.2.2.2.2.2 i).toInt ∧ (u.2.2.2.2.2.2.2.2.2.2.2.2.2 i).toInt ≤ 4) ∨ (10 ≤ (u.2.2.2.2.2.2.2.2.2.2.2.2.2 i).toInt ∧ (u.2.2.2.2.2.2.2.2.2.2.2.2.2 i).toInt ≤ 13) ∨ (u.2.2.2.2.2.2.2.2.2.2.2.2.2 i).toInt = 20 ∨ (u.2.2.2.2.2.2.2.2.2.2.2.2.2 i).toInt = 30)) ∧ (∀ i : Nat, (5 * gB ≤ (i : Int) ∧ (i : Int) < 5 * gB + gM) → ((0 ≤ (u.2.2.2.2.2.2.2.2.2.2.1 i).toInt ∧ (u.2.2.2.2.2.2.2.2.2.2.1 i).toInt ≤ 4) ∨ (10 ≤ (u.2.2.2.2.2.2.2.2.2.2.1 i).toInt ∧ (u.2.2.2.2.2.2.2.2.2.2.1 i).toInt ≤ 13) ∨ (u.2.2.2.2.2.2.2.2.2.2.1 i).toInt = 20)) ∧ (∀ i : Nat, (5 * gB ≤ (i : Int) ∧ (i : Int) < 5 * gB + gM) → ((0 ≤ (u.2.2.2.2.2.2.2.2.2.2.2.2.2 i).toInt ∧ (u.2.2.2.2.2.2.2.2.2.2.2.2.2 i).toInt ≤ 4) ∨ (10 ≤ (u.2.2.2.2.2.2.2.2.2.2.2.2.2 i).toInt ∧ (u.2.2.2.2.2.2.2.2.2.2.2.2.2 i).toInt ≤ 13) ∨ (u.2.2.2.2.2.2.2.2.2.2.2.2.2 i).toInt = 20)) ∧ (gG ≤ (u.2.2.2.1).toInt)) := by
  unfold FX7_readUnit
  replace i4 : HP _ := i4
  replace i5 : HP _ := i5
  replace i6 : HP _ := i6
  refine OK_if (fun c3142 => ?_) (fun c3142 => ?_)
  · have v3143 : HQ ((2 : Int32)).toInt 2 := HQ.mk (by decide)
    have f3144 := eq32k rfl v3143.out c3142
    exact sFX7_readUnit_12 n hn v_size v_rb a_text gB gM gG v_faultKind v_faultPlace v_at v_end v_token v_number v_name a_unitMany a_uName a_yesTo a_outName a_outPlace a_noTo i0 i1 i2 i3 i4 i5 i6 i7 i8 i9 i10 i11 i12 i13 i14 i15 i16 i17 i18 i19 i20
  · have v3145 : HQ ((2 : Int32)).toInt 2 := HQ.mk (by decide)
    have f3146 := neq32k rfl v3145.out c3142
    refine OK_bd (sX7_wrong n hn v_faultKind v_faultPlace v_at v_token i7) (fun u_3 p_u_3 => ?_)
    have p3147 := p_u_3
    clear p_u_3
    exact sFX7_readUnit_12 n hn v_size v_rb a_text gB gM gG u_3.2.1 u_3.2.2 v_at v_end v_token v_number v_name a_unitMany a_uName a_yesTo a_outName a_outPlace a_noTo i0 i1 i2 i3 i4 i5 i6 (by (first | omega | (unfold HP at *; omega))) i8 i9 i10 i11 i12 i13 i14 i15 i16 i17 i18 i19 i20
