set_option maxHeartbeats 2000000 in
theorem sX7_sign (n : Nat) (hn : n = 2200000000) (v_size : Int32) (a_text : Nat → Int32) (z1 : Int32) (i0 : 0 ≤ (z1).toInt) (i1 : (v_size).toInt ≤ 1200) : OK (FX7_sign n v_size a_text z1) (fun u => ((u.1).toInt = sgv v_size a_text (z1).toInt) ∧ (0 ≤ (u.1).toInt) ∧ ((u.1).toInt ≤ 255) ∧ ((v_size).toInt ≤ (z1).toInt → (u.1).toInt = 0)) := by
  unfold FX7_sign
  refine OK_if (fun c2140 => ?_) (fun c2140 => ?_)
  · have f2141 := le32k rfl rfl c2140
    have v2142 : HQ ((0 : Int32)).toInt 0 := HQ.mk (by decide)
    exact OK_some (show (((0 : Int32)).toInt = sgv v_size a_text (z1).toInt) ∧ (0 ≤ ((0 : Int32)).toInt) ∧ (((0 : Int32)).toInt ≤ 255) ∧ ((v_size).toInt ≤ (z1).toInt → ((0 : Int32)).toInt = 0) from ⟨(by first | exact sgv_hi (by assumption) | exact sgv_lo (by assumption)), (by (rw [v2142.out]) <;> omega), (by (rw [v2142.out]) <;> omega), (by (rw [v2142.out]) <;> omega)⟩)
  · have f2143 := nle32k rfl rfl c2140
    refine OK_ck (ckV rfl (by omega) (by omega)) ?_
    obtain ⟨y2144, v2145, f2146, f2147⟩ := andV (a_text ((z1).toNatClampNeg)) (255 : Int32) 8 (by decide) (by decide)
    exact OK_some (show ((((a_text ((z1).toNatClampNeg)) &&& (255 : Int32))).toInt = sgv v_size a_text (z1).toInt) ∧ (0 ≤ (((a_text ((z1).toNatClampNeg)) &&& (255 : Int32))).toInt) ∧ ((((a_text ((z1).toNatClampNeg)) &&& (255 : Int32))).toInt ≤ 255) ∧ ((v_size).toInt ≤ (z1).toInt → (((a_text ((z1).toNatClampNeg)) &&& (255 : Int32))).toInt = 0) from ⟨(by first | exact sgv_hi (by assumption) | exact sgv_lo (by assumption)), (by (rw [v2145.out]) <;> omega), (by (rw [v2145.out]) <;> omega), (by (rw [v2145.out]) <;> omega)⟩)
set_option maxHeartbeats 2000000 in
theorem sX7_fails (n : Nat) (hn : n = 2200000000) (v_faultKind : Int32) (v_faultPlace : Int32) (z1 : Int32) (z2 : Int32) (i0 : 0 ≤ (v_faultKind).toInt) (i1 : 1 ≤ (z1).toInt) : OK (FX7_fails n v_faultKind v_faultPlace z1 z2) (fun u => (1 ≤ (u.2.1).toInt)) := by
  unfold FX7_fails
  refine OK_if (fun c2148 => ?_) (fun c2148 => ?_)
  · have v2149 : HQ ((0 : Int32)).toInt 0 := HQ.mk (by decide)
    have f2150 := le32k rfl v2149.out c2148
    exact OK_some (show (1 ≤ (z1).toInt) from i1)
  · have v2151 : HQ ((0 : Int32)).toInt 0 := HQ.mk (by decide)
    have f2152 := nle32k rfl v2151.out c2148
    exact OK_some (show (1 ≤ (v_faultKind).toInt) from (by omega))
set_option maxHeartbeats 2000000 in
theorem sFX7_wrong_14 (n : Nat) (hn : n = 2200000000) (v_at : Int32) (v_token : Int32) (v_faultKind : Int32) (v_faultPlace : Int32) (y0 : Int32) (i0 : 0 ≤ (v_faultKind).toInt) (i1 : 1 ≤ (y0).toInt) : OK (FX7_wrong_14 n v_at v_token v_faultKind v_faultPlace y0) (fun u => (1 ≤ (u.2.1).toInt)) := by
  unfold FX7_wrong_14
  refine OK_bd (sX7_fails n hn v_faultKind v_faultPlace y0 v_at i0 i1) (fun u_3 p_u_3 => ?_)
  have p2153 := p_u_3
  clear p_u_3
  exact OK_some (show (1 ≤ (u_3.2.1).toInt) from p2153)
set_option maxHeartbeats 2000000 in
theorem sX7_wrong (n : Nat) (hn : n = 2200000000) (v_faultKind : Int32) (v_faultPlace : Int32) (v_at : Int32) (v_token : Int32) (i0 : 0 ≤ (v_faultKind).toInt) : OK (FX7_wrong n v_faultKind v_faultPlace v_at v_token) (fun u => (1 ≤ (u.2.1).toInt)) := by
  unfold FX7_wrong
  refine OK_if (fun c2154 => ?_) (fun c2154 => ?_)
  · have v2155 : HQ ((1 : Int32)).toInt 1 := HQ.mk (by decide)
    have f2156 := eq32k rfl v2155.out c2154
    exact sFX7_wrong_14 n hn v_at v_token v_faultKind v_faultPlace (1 : Int32) i0 (by (rw [v2155.out]) <;> omega)
  · have v2157 : HQ ((1 : Int32)).toInt 1 := HQ.mk (by decide)
    have f2158 := neq32k rfl v2157.out c2154
    have v2159 : HQ ((2 : Int32)).toInt 2 := HQ.mk (by decide)
    exact sFX7_wrong_14 n hn v_at v_token v_faultKind v_faultPlace (2 : Int32) i0 (by (rw [v2159.out]) <;> omega)
