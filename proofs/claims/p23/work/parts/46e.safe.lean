set_option maxHeartbeats 2000000 in
theorem sFX7_numeral_61 (n : Nat) (hn : n = 2200000000) (v_size : Int32) (a_text : Nat → Int32) (z1 : Int32) (gA : Int) (gX : Int) (gK : Int) (gV : Int) (gF : Int) (v_faultKind : Int32) (v_faultPlace : Int32) (v_at : Int32) (v_end : Int32) (v_token : Int32) (v_number : Int32) (v_name : Int64) (x2 : Int32) (i0 : (v_size).toInt ≤ 1200) (i1 : 0 ≤ (v_at).toInt) (i2 : (v_at).toInt ≤ (v_end).toInt) (i3 : (v_end).toInt ≤ (v_size).toInt) (i4 : (v_token).toInt ≠ 0 → (v_at).toInt < (v_end).toInt) (i5 : (v_token).toInt = 4 → (0 ≤ (v_number).toInt ∧ (v_number).toInt ≤ 99999)) (i6 : (v_token).toInt = 4 → (sgv v_size a_text (v_end).toInt < 48 ∨ 57 < sgv v_size a_text (v_end).toInt)) (i7 : 0 ≤ (v_faultKind).toInt) (i8 : 0 ≤ (z1).toInt) (i9 : gF ≠ 0 → (v_faultKind).toInt ≠ 0) (i10 : gA ≤ (v_at).toInt) (i11 : (v_faultKind).toInt = 0 → (gK = 4 ∧ gX ≤ (v_at).toInt ∧ (x2).toInt = gV ∧ 0 ≤ (x2).toInt ∧ (x2).toInt ≤ (z1).toInt)) (i12 : ((v_faultKind).toInt = 0 ∧ (v_token).toInt = 4) → gX < (v_at).toInt) : OK (FX7_numeral_61 n v_size a_text z1 v_faultKind v_faultPlace v_at v_end v_token v_number v_name x2) (fun u => (0 ≤ (u.2.2.2.1).toInt) ∧ ((u.2.2.2.1).toInt ≤ (u.2.2.2.2.1).toInt) ∧ ((u.2.2.2.2.1).toInt ≤ (v_size).toInt) ∧ ((u.2.2.2.2.2.1).toInt ≠ 0 → (u.2.2.2.1).toInt < (u.2.2.2.2.1).toInt) ∧ ((u.2.2.2.2.2.1).toInt = 4 → (0 ≤ (u.2.2.2.2.2.2.1).toInt ∧ (u.2.2.2.2.2.2.1).toInt ≤ 99999)) ∧ ((u.2.2.2.2.2.1).toInt = 4 → (sgv v_size a_text (u.2.2.2.2.1).toInt < 48 ∨ 57 < sgv v_size a_text (u.2.2.2.2.1).toInt)) ∧ (0 ≤ (u.2.1).toInt) ∧ (gF ≠ 0 → (u.2.1).toInt ≠ 0) ∧ (gA ≤ (u.2.2.2.1).toInt) ∧ ((u.2.1).toInt = 0 → (gK = 4 ∧ gX ≤ (u.2.2.2.1).toInt ∧ (u.1).toInt = gV)) ∧ (((u.2.1).toInt = 0 ∧ (u.2.2.2.2.2.1).toInt = 4) → gX < (u.2.2.2.1).toInt) ∧ (0 ≤ (u.1).toInt) ∧ ((u.1).toInt ≤ (z1).toInt)) := by
  unfold FX7_numeral_61
  refine OK_bd (sX7_isGood n hn v_faultKind) (fun u_19 p_u_19 => ?_)
  have p2312 := p_u_19
  clear p_u_19
  refine OK_if (fun c2313 => ?_) (fun c2313 => ?_)
  · have v2314 : HQ ((0 : Int32)).toInt 0 := HQ.mk (by decide)
    have f2315 := eq32k rfl v2314.out c2313
    exact OK_some (show (0 ≤ (v_at).toInt) ∧ ((v_at).toInt ≤ (v_end).toInt) ∧ ((v_end).toInt ≤ (v_size).toInt) ∧ ((v_token).toInt ≠ 0 → (v_at).toInt < (v_end).toInt) ∧ ((v_token).toInt = 4 → (0 ≤ (v_number).toInt ∧ (v_number).toInt ≤ 99999)) ∧ ((v_token).toInt = 4 → (sgv v_size a_text (v_end).toInt < 48 ∨ 57 < sgv v_size a_text (v_end).toInt)) ∧ (0 ≤ (v_faultKind).toInt) ∧ (gF ≠ 0 → (v_faultKind).toInt ≠ 0) ∧ (gA ≤ (v_at).toInt) ∧ ((v_faultKind).toInt = 0 → (gK = 4 ∧ gX ≤ (v_at).toInt ∧ ((0 : Int32)).toInt = gV)) ∧ (((v_faultKind).toInt = 0 ∧ (v_token).toInt = 4) → gX < (v_at).toInt) ∧ (0 ≤ ((0 : Int32)).toInt) ∧ (((0 : Int32)).toInt ≤ (z1).toInt) from ⟨i1, i2, i3, i4, i5, i6, i7, i9, i10, (by (rw [v2314.out]) <;> omega), i12, (by (rw [v2314.out]) <;> omega), (by (rw [v2314.out]) <;> omega)⟩)
  · have v2316 : HQ ((0 : Int32)).toInt 0 := HQ.mk (by decide)
    have f2317 := neq32k rfl v2316.out c2313
    exact OK_some (show (0 ≤ (v_at).toInt) ∧ ((v_at).toInt ≤ (v_end).toInt) ∧ ((v_end).toInt ≤ (v_size).toInt) ∧ ((v_token).toInt ≠ 0 → (v_at).toInt < (v_end).toInt) ∧ ((v_token).toInt = 4 → (0 ≤ (v_number).toInt ∧ (v_number).toInt ≤ 99999)) ∧ ((v_token).toInt = 4 → (sgv v_size a_text (v_end).toInt < 48 ∨ 57 < sgv v_size a_text (v_end).toInt)) ∧ (0 ≤ (v_faultKind).toInt) ∧ (gF ≠ 0 → (v_faultKind).toInt ≠ 0) ∧ (gA ≤ (v_at).toInt) ∧ ((v_faultKind).toInt = 0 → (gK = 4 ∧ gX ≤ (v_at).toInt ∧ (x2).toInt = gV)) ∧ (((v_faultKind).toInt = 0 ∧ (v_token).toInt = 4) → gX < (v_at).toInt) ∧ (0 ≤ (x2).toInt) ∧ ((x2).toInt ≤ (z1).toInt) from ⟨i1, i2, i3, i4, i5, i6, i7, i9, i10, (by omega), i12, (by omega), (by omega)⟩)
set_option maxHeartbeats 2000000 in
theorem sFX7_numeral_45 (n : Nat) (hn : n = 2200000000) (v_size : Int32) (a_text : Nat → Int32) (z1 : Int32) (gA : Int) (gX : Int) (gK : Int) (gV : Int) (gF : Int) (v_faultKind : Int32) (v_faultPlace : Int32) (v_at : Int32) (v_end : Int32) (v_token : Int32) (v_number : Int32) (v_name : Int64) (i0 : (v_size).toInt ≤ 1200) (i1 : 0 ≤ (v_at).toInt) (i2 : (v_at).toInt ≤ (v_end).toInt) (i3 : (v_end).toInt ≤ (v_size).toInt) (i4 : (v_token).toInt ≠ 0 → (v_at).toInt < (v_end).toInt) (i5 : (v_token).toInt = 4 → (0 ≤ (v_number).toInt ∧ (v_number).toInt ≤ 99999)) (i6 : (v_token).toInt = 4 → (sgv v_size a_text (v_end).toInt < 48 ∨ 57 < sgv v_size a_text (v_end).toInt)) (i7 : 0 ≤ (v_faultKind).toInt) (i8 : 0 ≤ (z1).toInt) (i9 : gF ≠ 0 → (v_faultKind).toInt ≠ 0) (i10 : gA = (v_at).toInt) (i11 : gX = (v_end).toInt) (i12 : gK = (v_token).toInt) (i13 : gV = (v_number).toInt) (i14 : (v_faultKind).toInt = 0 → ((v_token).toInt = 4 ∧ (v_number).toInt ≤ (z1).toInt)) : OK (FX7_numeral_45 n v_size a_text z1 v_faultKind v_faultPlace v_at v_end v_token v_number v_name) (fun u => (0 ≤ (u.2.2.2.1).toInt) ∧ ((u.2.2.2.1).toInt ≤ (u.2.2.2.2.1).toInt) ∧ ((u.2.2.2.2.1).toInt ≤ (v_size).toInt) ∧ ((u.2.2.2.2.2.1).toInt ≠ 0 → (u.2.2.2.1).toInt < (u.2.2.2.2.1).toInt) ∧ ((u.2.2.2.2.2.1).toInt = 4 → (0 ≤ (u.2.2.2.2.2.2.1).toInt ∧ (u.2.2.2.2.2.2.1).toInt ≤ 99999)) ∧ ((u.2.2.2.2.2.1).toInt = 4 → (sgv v_size a_text (u.2.2.2.2.1).toInt < 48 ∨ 57 < sgv v_size a_text (u.2.2.2.2.1).toInt)) ∧ (0 ≤ (u.2.1).toInt) ∧ (gF ≠ 0 → (u.2.1).toInt ≠ 0) ∧ (gA ≤ (u.2.2.2.1).toInt) ∧ ((u.2.1).toInt = 0 → (gK = 4 ∧ gX ≤ (u.2.2.2.1).toInt ∧ (u.1).toInt = gV)) ∧ (((u.2.1).toInt = 0 ∧ (u.2.2.2.2.2.1).toInt = 4) → gX < (u.2.2.2.1).toInt) ∧ (0 ≤ (u.1).toInt) ∧ ((u.1).toInt ≤ (z1).toInt)) := by
  unfold FX7_numeral_45
  refine OK_bd (sX7_isGood n hn v_faultKind) (fun u_14 p_u_14 => ?_)
  have p2318 := p_u_14
  clear p_u_14
  refine OK_if (fun c2319 => ?_) (fun c2319 => ?_)
  · have v2320 : HQ ((0 : Int32)).toInt 0 := HQ.mk (by decide)
    have f2321 := eq32k rfl v2320.out c2319
    exact sFX7_numeral_61 n hn v_size a_text z1 gA gX gK gV gF v_faultKind v_faultPlace v_at v_end v_token v_number v_name v_number i0 i1 i2 i3 i4 i5 i6 i7 i8 i9 (by omega) (by omega) (by omega)
  · have v2322 : HQ ((0 : Int32)).toInt 0 := HQ.mk (by decide)
    have f2323 := neq32k rfl v2322.out c2319
    refine OK_bd (sX7_next n hn v_size v_at v_end v_token v_number v_name a_text ((v_end).toInt) ((v_token).toInt) (by omega) i3 i0 (by omega) (by omega) (by omega)) (fun u_17 p_u_17 => ?_)
    obtain ⟨p2324, p2325, p2326, p2327, p2328, p2329, p2330⟩ := p_u_17
    exact sFX7_numeral_61 n hn v_size a_text z1 gA gX gK gV gF v_faultKind v_faultPlace u_17.2.1 u_17.2.2.1 u_17.2.2.2.1 u_17.2.2.2.2.1 u_17.2.2.2.2.2 v_number i0 (by omega) p2325 p2326 p2327 p2328 p2329 i7 i8 i9 (by omega) (by omega) (by omega)
set_option maxHeartbeats 2000000 in
theorem sFX7_numeral_21 (n : Nat) (hn : n = 2200000000) (v_size : Int32) (a_text : Nat → Int32) (z1 : Int32) (gA : Int) (gX : Int) (gK : Int) (gV : Int) (gF : Int) (v_faultKind : Int32) (v_faultPlace : Int32) (v_at : Int32) (v_end : Int32) (v_token : Int32) (v_number : Int32) (v_name : Int64) (x1 : Int32) (i0 : (v_size).toInt ≤ 1200) (i1 : 0 ≤ (v_at).toInt) (i2 : (v_at).toInt ≤ (v_end).toInt) (i3 : (v_end).toInt ≤ (v_size).toInt) (i4 : (v_token).toInt ≠ 0 → (v_at).toInt < (v_end).toInt) (i5 : (v_token).toInt = 4 → (0 ≤ (v_number).toInt ∧ (v_number).toInt ≤ 99999)) (i6 : (v_token).toInt = 4 → (sgv v_size a_text (v_end).toInt < 48 ∨ 57 < sgv v_size a_text (v_end).toInt)) (i7 : 0 ≤ (v_faultKind).toInt) (i8 : 0 ≤ (z1).toInt) (i9 : gF ≠ 0 → (v_faultKind).toInt ≠ 0) (i10 : gA = (v_at).toInt) (i11 : gX = (v_end).toInt) (i12 : gK = (v_token).toInt) (i13 : gV = (v_number).toInt) (i14 : (v_faultKind).toInt = 0 → (v_token).toInt = 4) (i15 : (x1).toInt = (z1).toInt) : OK (FX7_numeral_21 n v_size a_text z1 v_faultKind v_faultPlace v_at v_end v_token v_number v_name x1) (fun u => (0 ≤ (u.2.2.2.1).toInt) ∧ ((u.2.2.2.1).toInt ≤ (u.2.2.2.2.1).toInt) ∧ ((u.2.2.2.2.1).toInt ≤ (v_size).toInt) ∧ ((u.2.2.2.2.2.1).toInt ≠ 0 → (u.2.2.2.1).toInt < (u.2.2.2.2.1).toInt) ∧ ((u.2.2.2.2.2.1).toInt = 4 → (0 ≤ (u.2.2.2.2.2.2.1).toInt ∧ (u.2.2.2.2.2.2.1).toInt ≤ 99999)) ∧ ((u.2.2.2.2.2.1).toInt = 4 → (sgv v_size a_text (u.2.2.2.2.1).toInt < 48 ∨ 57 < sgv v_size a_text (u.2.2.2.2.1).toInt)) ∧ (0 ≤ (u.2.1).toInt) ∧ (gF ≠ 0 → (u.2.1).toInt ≠ 0) ∧ (gA ≤ (u.2.2.2.1).toInt) ∧ ((u.2.1).toInt = 0 → (gK = 4 ∧ gX ≤ (u.2.2.2.1).toInt ∧ (u.1).toInt = gV)) ∧ (((u.2.1).toInt = 0 ∧ (u.2.2.2.2.2.1).toInt = 4) → gX < (u.2.2.2.1).toInt) ∧ (0 ≤ (u.1).toInt) ∧ ((u.1).toInt ≤ (z1).toInt)) := by
  unfold FX7_numeral_21
  refine OK_bd (sX7_isGood n hn v_faultKind) (fun u_8 p_u_8 => ?_)
  have p2331 := p_u_8
  clear p_u_8
  refine OK_if (fun c2332 => ?_) (fun c2332 => ?_)
  · have v2333 : HQ ((0 : Int32)).toInt 0 := HQ.mk (by decide)
    have f2334 := eq32k rfl v2333.out c2332
    exact sFX7_numeral_45 n hn v_size a_text z1 gA gX gK gV gF v_faultKind v_faultPlace v_at v_end v_token v_number v_name i0 i1 i2 i3 i4 i5 i6 i7 i8 i9 i10 i11 i12 i13 (by omega)
  · have v2335 : HQ ((0 : Int32)).toInt 0 := HQ.mk (by decide)
    have f2336 := neq32k rfl v2335.out c2332
    refine OK_if (fun c2337 => ?_) (fun c2337 => ?_)
    · have f2338 := le32k rfl rfl c2337
      exact sFX7_numeral_45 n hn v_size a_text z1 gA gX gK gV gF v_faultKind v_faultPlace v_at v_end v_token v_number v_name i0 i1 i2 i3 i4 i5 i6 i7 i8 i9 i10 i11 i12 i13 (by omega)
    · have f2339 := nle32k rfl rfl c2337
      have v2340 : HQ ((4 : Int32)).toInt 4 := HQ.mk (by decide)
      refine OK_bd (sX7_fails n hn v_faultKind v_faultPlace (4 : Int32) v_at i7 (by (rw [v2340.out]) <;> omega)) (fun u_12 p_u_12 => ?_)
      have p2341 := p_u_12
      clear p_u_12
      exact sFX7_numeral_45 n hn v_size a_text z1 gA gX gK gV gF u_12.2.1 u_12.2.2 v_at v_end v_token v_number v_name i0 i1 i2 i3 i4 i5 i6 (by omega) i8 (by omega) i10 i11 i12 i13 (by omega)
set_option maxHeartbeats 2000000 in
theorem sX7_numeral (n : Nat) (hn : n = 2200000000) (v_size : Int32) (v_faultKind : Int32) (v_faultPlace : Int32) (v_at : Int32) (v_end : Int32) (v_token : Int32) (v_number : Int32) (v_name : Int64) (a_text : Nat → Int32) (z1 : Int32) (gA : Int) (gX : Int) (gK : Int) (gV : Int) (gF : Int) (i0 : (v_size).toInt ≤ 1200) (i1 : 0 ≤ (v_at).toInt) (i2 : (v_at).toInt ≤ (v_end).toInt) (i3 : (v_end).toInt ≤ (v_size).toInt) (i4 : (v_token).toInt ≠ 0 → (v_at).toInt < (v_end).toInt) (i5 : (v_token).toInt = 4 → (0 ≤ (v_number).toInt ∧ (v_number).toInt ≤ 99999)) (i6 : (v_token).toInt = 4 → (sgv v_size a_text (v_end).toInt < 48 ∨ 57 < sgv v_size a_text (v_end).toInt)) (i7 : 0 ≤ (v_faultKind).toInt) (i8 : 0 ≤ (z1).toInt) (i9 : gF ≠ 0 → (v_faultKind).toInt ≠ 0) (i10 : gA = (v_at).toInt) (i11 : gX = (v_end).toInt) (i12 : gK = (v_token).toInt) (i13 : gV = (v_number).toInt) : OK (FX7_numeral n v_size v_faultKind v_faultPlace v_at v_end v_token v_number v_name a_text z1) (fun u => (0 ≤ (u.2.2.2.1).toInt) ∧ ((u.2.2.2.1).toInt ≤ (u.2.2.2.2.1).toInt) ∧ ((u.2.2.2.2.1).toInt ≤ (v_size).toInt) ∧ ((u.2.2.2.2.2.1).toInt ≠ 0 → (u.2.2.2.1).toInt < (u.2.2.2.2.1).toInt) ∧ ((u.2.2.2.2.2.1).toInt = 4 → (0 ≤ (u.2.2.2.2.2.2.1).toInt ∧ (u.2.2.2.2.2.2.1).toInt ≤ 99999)) ∧ ((u.2.2.2.2.2.1).toInt = 4 → (sgv v_size a_text (u.2.2.2.2.1).toInt < 48 ∨ 57 < sgv v_size a_text (u.2.2.2.2.1).toInt)) ∧ (0 ≤ (u.2.1).toInt) ∧ (gF ≠ 0 → (u.2.1).toInt ≠ 0) ∧ (gA ≤ (u.2.2.2.1).toInt) ∧ ((u.2.1).toInt = 0 → (gK = 4 ∧ gX ≤ (u.2.2.2.1).toInt ∧ (u.1).toInt = gV)) ∧ (((u.2.1).toInt = 0 ∧ (u.2.2.2.2.2.1).toInt = 4) → gX < (u.2.2.2.1).toInt) ∧ (0 ≤ (u.1).toInt) ∧ ((u.1).toInt ≤ (z1).toInt)) := by
  unfold FX7_numeral
  refine OK_bd (sX7_isGood n hn v_faultKind) (fun u_2 p_u_2 => ?_)
  have p2342 := p_u_2
  clear p_u_2
  refine OK_if (fun c2343 => ?_) (fun c2343 => ?_)
  · have v2344 : HQ ((0 : Int32)).toInt 0 := HQ.mk (by decide)
    have f2345 := eq32k rfl v2344.out c2343
    exact OK_some (show (0 ≤ (v_at).toInt) ∧ ((v_at).toInt ≤ (v_end).toInt) ∧ ((v_end).toInt ≤ (v_size).toInt) ∧ ((v_token).toInt ≠ 0 → (v_at).toInt < (v_end).toInt) ∧ ((v_token).toInt = 4 → (0 ≤ (v_number).toInt ∧ (v_number).toInt ≤ 99999)) ∧ ((v_token).toInt = 4 → (sgv v_size a_text (v_end).toInt < 48 ∨ 57 < sgv v_size a_text (v_end).toInt)) ∧ (0 ≤ (v_faultKind).toInt) ∧ (gF ≠ 0 → (v_faultKind).toInt ≠ 0) ∧ (gA ≤ (v_at).toInt) ∧ ((v_faultKind).toInt = 0 → (gK = 4 ∧ gX ≤ (v_at).toInt ∧ ((0 : Int32)).toInt = gV)) ∧ (((v_faultKind).toInt = 0 ∧ (v_token).toInt = 4) → gX < (v_at).toInt) ∧ (0 ≤ ((0 : Int32)).toInt) ∧ (((0 : Int32)).toInt ≤ (z1).toInt) from ⟨i1, i2, i3, i4, i5, i6, i7, i9, (by omega), (by (rw [v2344.out]) <;> omega), (by omega), (by (rw [v2344.out]) <;> omega), (by (rw [v2344.out]) <;> omega)⟩)
  · have v2346 : HQ ((0 : Int32)).toInt 0 := HQ.mk (by decide)
    have f2347 := neq32k rfl v2346.out c2343
    refine OK_if (fun c2348 => ?_) (fun c2348 => ?_)
    · have v2349 : HQ ((4 : Int32)).toInt 4 := HQ.mk (by decide)
      have f2350 := eq32k rfl v2349.out c2348
      exact sFX7_numeral_21 n hn v_size a_text z1 gA gX gK gV gF v_faultKind v_faultPlace v_at v_end v_token v_number v_name z1 i0 i1 i2 i3 i4 i5 i6 i7 i8 i9 i10 i11 i12 i13 (by omega) (by omega)
    · have v2351 : HQ ((4 : Int32)).toInt 4 := HQ.mk (by decide)
      have f2352 := neq32k rfl v2351.out c2348
      refine OK_bd (sX7_wrong n hn v_faultKind v_faultPlace v_at v_token i7) (fun u_6 p_u_6 => ?_)
      have p2353 := p_u_6
      clear p_u_6
      exact sFX7_numeral_21 n hn v_size a_text z1 gA gX gK gV gF u_6.2.1 u_6.2.2 v_at v_end v_token v_number v_name z1 i0 i1 i2 i3 i4 i5 i6 (by omega) i8 (by omega) i10 i11 i12 i13 (by omega) (by omega)
