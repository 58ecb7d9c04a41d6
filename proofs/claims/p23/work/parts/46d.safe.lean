set_option maxHeartbeats 2000000 in
theorem sX7_must (n : Nat) (hn : n = 2200000000) (v_size : Int32) (v_faultKind : Int32) (v_faultPlace : Int32) (v_at : Int32) (v_end : Int32) (v_token : Int32) (v_number : Int32) (v_name : Int64) (a_text : Nat → Int32) (z1 : Int32) (i0 : (v_size).toInt ≤ 1200) (i1 : 0 ≤ (v_at).toInt) (i2 : (v_at).toInt ≤ (v_end).toInt) (i3 : (v_end).toInt ≤ (v_size).toInt) (i4 : (v_token).toInt ≠ 0 → (v_at).toInt < (v_end).toInt) (i5 : (v_token).toInt = 4 → (0 ≤ (v_number).toInt ∧ (v_number).toInt ≤ 99999)) (i6 : (v_token).toInt = 4 → (sgv v_size a_text (v_end).toInt < 48 ∨ 57 < sgv v_size a_text (v_end).toInt)) (i7 : 0 ≤ (v_faultKind).toInt) : OK (FX7_must n v_size v_faultKind v_faultPlace v_at v_end v_token v_number v_name a_text z1) (fun u => (0 ≤ (u.2.2.2.1).toInt) ∧ ((u.2.2.2.1).toInt ≤ (u.2.2.2.2.1).toInt) ∧ ((u.2.2.2.2.1).toInt ≤ (v_size).toInt) ∧ ((u.2.2.2.2.2.1).toInt ≠ 0 → (u.2.2.2.1).toInt < (u.2.2.2.2.1).toInt) ∧ ((u.2.2.2.2.2.1).toInt = 4 → (0 ≤ (u.2.2.2.2.2.2.1).toInt ∧ (u.2.2.2.2.2.2.1).toInt ≤ 99999)) ∧ ((u.2.2.2.2.2.1).toInt = 4 → (sgv v_size a_text (u.2.2.2.2.1).toInt < 48 ∨ 57 < sgv v_size a_text (u.2.2.2.2.1).toInt)) ∧ (0 ≤ (u.2.1).toInt) ∧ ((v_at).toInt ≤ (u.2.2.2.1).toInt) ∧ ((u.2.1).toInt = 0 → ((v_faultKind).toInt = 0 ∧ (v_end).toInt ≤ (u.2.2.2.1).toInt ∧ (z1).toInt ≠ 0))) := by
  unfold FX7_must
  refine OK_bd (sX7_isGood n hn v_faultKind) (fun u_2 p_u_2 => ?_)
  have p2295 := p_u_2
  clear p_u_2
  refine OK_if (fun c2296 => ?_) (fun c2296 => ?_)
  · have v2297 : HQ ((0 : Int32)).toInt 0 := HQ.mk (by decide)
    have f2298 := eq32k rfl v2297.out c2296
    exact OK_some (show (0 ≤ (v_at).toInt) ∧ ((v_at).toInt ≤ (v_end).toInt) ∧ ((v_end).toInt ≤ (v_size).toInt) ∧ ((v_token).toInt ≠ 0 → (v_at).toInt < (v_end).toInt) ∧ ((v_token).toInt = 4 → (0 ≤ (v_number).toInt ∧ (v_number).toInt ≤ 99999)) ∧ ((v_token).toInt = 4 → (sgv v_size a_text (v_end).toInt < 48 ∨ 57 < sgv v_size a_text (v_end).toInt)) ∧ (0 ≤ (v_faultKind).toInt) ∧ ((v_at).toInt ≤ (v_at).toInt) ∧ ((v_faultKind).toInt = 0 → ((v_faultKind).toInt = 0 ∧ (v_end).toInt ≤ (v_at).toInt ∧ (z1).toInt ≠ 0)) from ⟨i1, i2, i3, i4, i5, i6, i7, (by omega), (by omega)⟩)
  · have v2299 : HQ ((0 : Int32)).toInt 0 := HQ.mk (by decide)
    have f2300 := neq32k rfl v2299.out c2296
    refine OK_if (fun c2301 => ?_) (fun c2301 => ?_)
    · have f2302 := eq32k rfl v2299.out c2301
      refine OK_bd (sX7_wrong n hn v_faultKind v_faultPlace v_at v_token i7) (fun u_6 p_u_6 => ?_)
      have p2303 := p_u_6
      clear p_u_6
      exact OK_some (show (0 ≤ (v_at).toInt) ∧ ((v_at).toInt ≤ (v_end).toInt) ∧ ((v_end).toInt ≤ (v_size).toInt) ∧ ((v_token).toInt ≠ 0 → (v_at).toInt < (v_end).toInt) ∧ ((v_token).toInt = 4 → (0 ≤ (v_number).toInt ∧ (v_number).toInt ≤ 99999)) ∧ ((v_token).toInt = 4 → (sgv v_size a_text (v_end).toInt < 48 ∨ 57 < sgv v_size a_text (v_end).toInt)) ∧ (0 ≤ (u_6.2.1).toInt) ∧ ((v_at).toInt ≤ (v_at).toInt) ∧ ((u_6.2.1).toInt = 0 → ((v_faultKind).toInt = 0 ∧ (v_end).toInt ≤ (v_at).toInt ∧ (z1).toInt ≠ 0)) from ⟨i1, i2, i3, i4, i5, i6, (by omega), (by omega), (by omega)⟩)
    · have f2304 := neq32k rfl v2299.out c2301
      refine OK_bd (sX7_next n hn v_size v_at v_end v_token v_number v_name a_text ((v_end).toInt) ((v_token).toInt) (by omega) i3 i0 (by omega) (by omega) (by omega)) (fun u_8 p_u_8 => ?_)
      obtain ⟨p2305, p2306, p2307, p2308, p2309, p2310, p2311⟩ := p_u_8
      exact OK_some (show (0 ≤ (u_8.2.1).toInt) ∧ ((u_8.2.1).toInt ≤ (u_8.2.2.1).toInt) ∧ ((u_8.2.2.1).toInt ≤ (v_size).toInt) ∧ ((u_8.2.2.2.1).toInt ≠ 0 → (u_8.2.1).toInt < (u_8.2.2.1).toInt) ∧ ((u_8.2.2.2.1).toInt = 4 → (0 ≤ (u_8.2.2.2.2.1).toInt ∧ (u_8.2.2.2.2.1).toInt ≤ 99999)) ∧ ((u_8.2.2.2.1).toInt = 4 → (sgv v_size a_text (u_8.2.2.1).toInt < 48 ∨ 57 < sgv v_size a_text (u_8.2.2.1).toInt)) ∧ (0 ≤ (v_faultKind).toInt) ∧ ((v_at).toInt ≤ (u_8.2.1).toInt) ∧ ((v_faultKind).toInt = 0 → ((v_faultKind).toInt = 0 ∧ (v_end).toInt ≤ (u_8.2.1).toInt ∧ (z1).toInt ≠ 0)) from ⟨(by omega), p2306, p2307, p2308, p2309, p2310, i7, (by omega), (by omega)⟩)
