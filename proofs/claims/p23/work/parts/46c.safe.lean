set_option maxHeartbeats 2000000 in
theorem sFX7_next_45 (n : Nat) (hn : n = 2200000000) (v_size : Int32) (a_text : Nat → Int32) (gE : Int) (gT : Int) (k8 : Int32 → Int32 → Int32 → Int32 → Int64 → Option (Unit × Int32 × Int32 × Int32 × Int32 × Int64)) (mB8 : Nat) (hk8 : ∀ (v_at : Int32) (v_end : Int32) (v_token : Int32) (v_number : Int32) (v_name : Int64), (0 ≤ (v_end).toInt) → ((v_end).toInt ≤ (v_size).toInt) → ((v_size).toInt ≤ 1200) → (gE = (v_end).toInt) → (gT = 4 → (sgv v_size a_text (v_end).toInt < 48 ∨ 57 < sgv v_size a_text (v_end).toInt)) → (0 ≤ gE) → ((v_end).toInt ≤ (v_at).toInt) → ((v_at).toInt ≤ (v_size).toInt) → ((v_size).toInt - (v_at).toInt).toNat < mB8 → OK (k8 v_at v_end v_token v_number v_name) (fun u => (gE ≤ (u.2.1).toInt) ∧ ((u.2.1).toInt ≤ (u.2.2.1).toInt) ∧ ((u.2.2.1).toInt ≤ (v_size).toInt) ∧ ((u.2.2.2.1).toInt ≠ 0 → (u.2.1).toInt < (u.2.2.1).toInt) ∧ ((u.2.2.2.1).toInt = 4 → (0 ≤ (u.2.2.2.2.1).toInt ∧ (u.2.2.2.2.1).toInt ≤ 99999)) ∧ ((u.2.2.2.1).toInt = 4 → (sgv v_size a_text (u.2.2.1).toInt < 48 ∨ 57 < sgv v_size a_text (u.2.2.1).toInt)) ∧ ((gT = 4 ∧ (u.2.2.2.1).toInt = 4) → gE < (u.2.1).toInt))) (v_at : Int32) (v_end : Int32) (v_token : Int32) (v_number : Int32) (v_name : Int64) (i0 : 0 ≤ (v_end).toInt) (i1 : (v_end).toInt ≤ (v_size).toInt) (i2 : (v_size).toInt ≤ 1200) (i3 : gE = (v_end).toInt) (i4 : gT = 4 → (sgv v_size a_text (v_end).toInt < 48 ∨ 57 < sgv v_size a_text (v_end).toInt)) (i5 : 0 ≤ gE) (i6 : (v_end).toInt ≤ (v_at).toInt) (i7 : (v_at).toInt < (v_size).toInt) (i8 : ((v_size).toInt - (v_at).toInt).toNat ≤ mB8) : OK (FX7_next_45 n v_size a_text k8 v_at v_end v_token v_number v_name) (fun u => (gE ≤ (u.2.1).toInt) ∧ ((u.2.1).toInt ≤ (u.2.2.1).toInt) ∧ ((u.2.2.1).toInt ≤ (v_size).toInt) ∧ ((u.2.2.2.1).toInt ≠ 0 → (u.2.1).toInt < (u.2.2.1).toInt) ∧ ((u.2.2.2.1).toInt = 4 → (0 ≤ (u.2.2.2.2.1).toInt ∧ (u.2.2.2.2.1).toInt ≤ 99999)) ∧ ((u.2.2.2.1).toInt = 4 → (sgv v_size a_text (u.2.2.1).toInt < 48 ∨ 57 < sgv v_size a_text (u.2.2.1).toInt)) ∧ ((gT = 4 ∧ (u.2.2.2.1).toInt = 4) → gE < (u.2.1).toInt)) := by
  unfold FX7_next_45
  have v2160 : HQ ((1 : Int32)).toInt 1 := HQ.mk (by decide)
  have v2161 : HQ ((v_at + (1 : Int32))).toInt ((v_at).toInt + 1) := HQ.mk (addV rfl v2160.out (by omega) (by omega))
  refine OK_lt (fun x_19 e_x_19 => ?_)
  have f2162 : (x_19).toInt = ((v_at).toInt + 1) := by rw [e_x_19]; exact v2161.out
  exact hk8 x_19 v_end v_token v_number v_name i0 i1 i2 i3 i4 i5 (by omega) (by omega) (by omega)
set_option maxHeartbeats 2000000 in
theorem sFX7_next_233 (n : Nat) (hn : n = 2200000000) (v_size : Int32) (a_text : Nat → Int32) (gE : Int) (gT : Int) (v_at : Int32) (v_end : Int32) (v_token : Int32) (v_number : Int32) (v_name : Int64) (y0 : Int32) (i0 : 0 ≤ (v_end).toInt) (i1 : (v_end).toInt ≤ (v_size).toInt) (i2 : (v_size).toInt ≤ 1200) (i3 : 0 ≤ gE) (i4 : gE ≤ (v_at).toInt) (i5 : (v_at).toInt < (v_end).toInt) (i6 : (y0).toInt ≠ 4) : OK (FX7_next_233 n v_size a_text v_at v_end v_token v_number v_name y0) (fun u => (gE ≤ (u.2.1).toInt) ∧ ((u.2.1).toInt ≤ (u.2.2.1).toInt) ∧ ((u.2.2.1).toInt ≤ (v_size).toInt) ∧ ((u.2.2.2.1).toInt ≠ 0 → (u.2.1).toInt < (u.2.2.1).toInt) ∧ ((u.2.2.2.1).toInt = 4 → (0 ≤ (u.2.2.2.2.1).toInt ∧ (u.2.2.2.2.1).toInt ≤ 99999)) ∧ ((u.2.2.2.1).toInt = 4 → (sgv v_size a_text (u.2.2.1).toInt < 48 ∨ 57 < sgv v_size a_text (u.2.2.1).toInt)) ∧ ((gT = 4 ∧ (u.2.2.2.1).toInt = 4) → gE < (u.2.1).toInt)) := by
  unfold FX7_next_233
  exact OK_some (show (gE ≤ (v_at).toInt) ∧ ((v_at).toInt ≤ (v_end).toInt) ∧ ((v_end).toInt ≤ (v_size).toInt) ∧ ((y0).toInt ≠ 0 → (v_at).toInt < (v_end).toInt) ∧ ((y0).toInt = 4 → (0 ≤ (v_number).toInt ∧ (v_number).toInt ≤ 99999)) ∧ ((y0).toInt = 4 → (sgv v_size a_text (v_end).toInt < 48 ∨ 57 < sgv v_size a_text (v_end).toInt)) ∧ ((gT = 4 ∧ (y0).toInt = 4) → gE < (v_at).toInt) from ⟨i4, (by omega), i1, (by omega), (by omega), (by omega), (by omega)⟩)
set_option maxHeartbeats 2000000 in
theorem sFX7_next_199 (n : Nat) (hn : n = 2200000000) (v_size : Int32) (a_text : Nat → Int32) (gE : Int) (gT : Int) (v_at : Int32) (v_end : Int32) (v_token : Int32) (v_number : Int32) (v_name : Int64) (i0 : 0 ≤ (v_end).toInt) (i1 : (v_end).toInt ≤ (v_size).toInt) (i2 : (v_size).toInt ≤ 1200) (i3 : 0 ≤ gE) (i4 : gE ≤ (v_at).toInt) (i5 : (v_at).toInt < (v_end).toInt) : OK (FX7_next_199 n v_size a_text v_at v_end v_token v_number v_name) (fun u => (gE ≤ (u.2.1).toInt) ∧ ((u.2.1).toInt ≤ (u.2.2.1).toInt) ∧ ((u.2.2.1).toInt ≤ (v_size).toInt) ∧ ((u.2.2.2.1).toInt ≠ 0 → (u.2.1).toInt < (u.2.2.1).toInt) ∧ ((u.2.2.2.1).toInt = 4 → (0 ≤ (u.2.2.2.2.1).toInt ∧ (u.2.2.2.2.1).toInt ≤ 99999)) ∧ ((u.2.2.2.1).toInt = 4 → (sgv v_size a_text (u.2.2.1).toInt < 48 ∨ 57 < sgv v_size a_text (u.2.2.1).toInt)) ∧ ((gT = 4 ∧ (u.2.2.2.1).toInt = 4) → gE < (u.2.1).toInt)) := by
  unfold FX7_next_199
  refine OK_if (fun c2163 => ?_) (fun c2163 => ?_)
  · have v2164 : HQ ((v_end - v_at)).toInt ((v_end).toInt - (v_at).toInt) := HQ.mk (subV rfl rfl (by omega) (by omega))
    have v2165 : HQ ((8 : Int32)).toInt 8 := HQ.mk (by decide)
    have f2166 := le32k v2164.out v2165.out c2163
    refine OK_bd (sX7_isKept n hn v_name) (fun u_50 p_u_50 => ?_)
    refine OK_if (fun c2167 => ?_) (fun c2167 => ?_)
    · have v2168 : HQ ((0 : Int32)).toInt 0 := HQ.mk (by decide)
      have f2169 := eq32k rfl v2168.out c2167
      have v2170 : HQ ((2 : Int32)).toInt 2 := HQ.mk (by decide)
      exact sFX7_next_233 n hn v_size a_text gE gT v_at v_end v_token v_number v_name (2 : Int32) i0 i1 i2 i3 i4 i5 (by (rw [v2170.out]) <;> omega)
    · have v2171 : HQ ((0 : Int32)).toInt 0 := HQ.mk (by decide)
      have f2172 := neq32k rfl v2171.out c2167
      have v2173 : HQ ((3 : Int32)).toInt 3 := HQ.mk (by decide)
      exact sFX7_next_233 n hn v_size a_text gE gT v_at v_end v_token v_number v_name (3 : Int32) i0 i1 i2 i3 i4 i5 (by (rw [v2173.out]) <;> omega)
  · have v2174 : HQ ((v_end - v_at)).toInt ((v_end).toInt - (v_at).toInt) := HQ.mk (subV rfl rfl (by omega) (by omega))
    have v2175 : HQ ((8 : Int32)).toInt 8 := HQ.mk (by decide)
    have f2176 := nle32k v2174.out v2175.out c2163
    have v2177 : HQ ((1 : Int32)).toInt 1 := HQ.mk (by decide)
    exact sFX7_next_233 n hn v_size a_text gE gT v_at v_end v_token v_number v_name (1 : Int32) i0 i1 i2 i3 i4 i5 (by (rw [v2177.out]) <;> omega)
set_option maxHeartbeats 2000000 in
theorem sFX7_next_156 (n : Nat) (hn : n = 2200000000) (v_size : Int32) (a_text : Nat → Int32) (gE : Int) (gT : Int) (k156 : Int32 → Int32 → Int32 → Int32 → Int64 → Int32 → Option (Unit × Int32 × Int32 × Int32 × Int32 × Int64)) (mB156 : Nat) (hk156 : ∀ (v_at : Int32) (v_end : Int32) (v_token : Int32) (v_number : Int32) (v_name : Int64) (x2 : Int32), (0 ≤ (v_end).toInt) → ((v_end).toInt ≤ (v_size).toInt) → ((v_size).toInt ≤ 1200) → (0 ≤ gE) → (gE ≤ (v_at).toInt) → ((v_at).toInt < (v_end).toInt) → ((v_at).toInt ≤ (x2).toInt) → ((x2).toInt ≤ (v_end).toInt) → ((v_end).toInt - (x2).toInt).toNat < mB156 → OK (k156 v_at v_end v_token v_number v_name x2) (fun u => (gE ≤ (u.2.1).toInt) ∧ ((u.2.1).toInt ≤ (u.2.2.1).toInt) ∧ ((u.2.2.1).toInt ≤ (v_size).toInt) ∧ ((u.2.2.2.1).toInt ≠ 0 → (u.2.1).toInt < (u.2.2.1).toInt) ∧ ((u.2.2.2.1).toInt = 4 → (0 ≤ (u.2.2.2.2.1).toInt ∧ (u.2.2.2.2.1).toInt ≤ 99999)) ∧ ((u.2.2.2.1).toInt = 4 → (sgv v_size a_text (u.2.2.1).toInt < 48 ∨ 57 < sgv v_size a_text (u.2.2.1).toInt)) ∧ ((gT = 4 ∧ (u.2.2.2.1).toInt = 4) → gE < (u.2.1).toInt))) (v_at : Int32) (v_end : Int32) (v_token : Int32) (v_number : Int32) (v_name : Int64) (x2 : Int32) (i0 : 0 ≤ (v_end).toInt) (i1 : (v_end).toInt ≤ (v_size).toInt) (i2 : (v_size).toInt ≤ 1200) (i3 : 0 ≤ gE) (i4 : gE ≤ (v_at).toInt) (i5 : (v_at).toInt < (v_end).toInt) (i6 : (v_at).toInt ≤ (x2).toInt) (i7 : (x2).toInt ≤ (v_end).toInt) (hmu : ((v_end).toInt - (x2).toInt).toNat ≤ mB156) : OK (FX7_next_156 n v_size a_text k156 v_at v_end v_token v_number v_name x2) (fun u => (gE ≤ (u.2.1).toInt) ∧ ((u.2.1).toInt ≤ (u.2.2.1).toInt) ∧ ((u.2.2.1).toInt ≤ (v_size).toInt) ∧ ((u.2.2.2.1).toInt ≠ 0 → (u.2.1).toInt < (u.2.2.1).toInt) ∧ ((u.2.2.2.1).toInt = 4 → (0 ≤ (u.2.2.2.2.1).toInt ∧ (u.2.2.2.2.1).toInt ≤ 99999)) ∧ ((u.2.2.2.1).toInt = 4 → (sgv v_size a_text (u.2.2.1).toInt < 48 ∨ 57 < sgv v_size a_text (u.2.2.1).toInt)) ∧ ((gT = 4 ∧ (u.2.2.2.1).toInt = 4) → gE < (u.2.1).toInt)) := by
  unfold FX7_next_156
  refine OK_if (fun c2178 => ?_) (fun c2178 => ?_)
  · have f2179 := le32k rfl rfl c2178
    exact sFX7_next_199 n hn v_size a_text gE gT v_at v_end v_token v_number v_name i0 i1 i2 i3 i4 i5
  · have f2180 := nle32k rfl rfl c2178
    refine OK_if (fun c2181 => ?_) (fun c2181 => ?_)
    · have v2182 : HQ ((8 : Int32)).toInt 8 := HQ.mk (by decide)
      have v2183 : HQ ((v_at + (8 : Int32))).toInt ((v_at).toInt + 8) := HQ.mk (addV rfl v2182.out (by omega) (by omega))
      have f2184 := le32k v2183.out rfl c2181
      exact sFX7_next_199 n hn v_size a_text gE gT v_at v_end v_token v_number v_name i0 i1 i2 i3 i4 i5
    · have v2185 : HQ ((8 : Int32)).toInt 8 := HQ.mk (by decide)
      have v2186 : HQ ((v_at + (8 : Int32))).toInt ((v_at).toInt + 8) := HQ.mk (addV rfl v2185.out (by omega) (by omega))
      have f2187 := nle32k v2186.out rfl c2181
      refine OK_bd (sX7_sign n hn v_size a_text x2 (by omega) i2) (fun u_45 p_u_45 => ?_)
      obtain ⟨c_sg, p2188, p2189, p2190⟩ := p_u_45
      refine OK_lt (fun x_46 e_x_46 => ?_)
      have v2191 : HQ ((1 : Int32)).toInt 1 := HQ.mk (by decide)
      have v2192 : HQ ((x2 + (1 : Int32))).toInt ((x2).toInt + 1) := HQ.mk (addV rfl v2191.out (by omega) (by omega))
      refine OK_lt (fun x_47 e_x_47 => ?_)
      have f2193 : (x_47).toInt = ((x2).toInt + 1) := by rw [e_x_47]; exact v2192.out
      exact hk156 v_at v_end v_token v_number x_46 x_47 i0 i1 i2 i3 i4 i5 (by omega) (by omega) (by omega)
theorem sFX7_next_156L (n : Nat) (hn : n = 2200000000) (v_size : Int32) (a_text : Nat → Int32) (gE : Int) (gT : Int) : ∀ (j : Nat) (v_at : Int32) (v_end : Int32) (v_token : Int32) (v_number : Int32) (v_name : Int64) (x2 : Int32), (0 ≤ (v_end).toInt) → ((v_end).toInt ≤ (v_size).toInt) → ((v_size).toInt ≤ 1200) → (0 ≤ gE) → (gE ≤ (v_at).toInt) → ((v_at).toInt < (v_end).toInt) → ((v_at).toInt ≤ (x2).toInt) → ((x2).toInt ≤ (v_end).toInt) → ((v_end).toInt - (x2).toInt).toNat < j → OK (FX7_next_156L n v_size a_text j v_at v_end v_token v_number v_name x2) (fun u => (gE ≤ (u.2.1).toInt) ∧ ((u.2.1).toInt ≤ (u.2.2.1).toInt) ∧ ((u.2.2.1).toInt ≤ (v_size).toInt) ∧ ((u.2.2.2.1).toInt ≠ 0 → (u.2.1).toInt < (u.2.2.1).toInt) ∧ ((u.2.2.2.1).toInt = 4 → (0 ≤ (u.2.2.2.2.1).toInt ∧ (u.2.2.2.2.1).toInt ≤ 99999)) ∧ ((u.2.2.2.1).toInt = 4 → (sgv v_size a_text (u.2.2.1).toInt < 48 ∨ 57 < sgv v_size a_text (u.2.2.1).toInt)) ∧ ((gT = 4 ∧ (u.2.2.2.1).toInt = 4) → gE < (u.2.1).toInt)) := by
  intro j
  induction j with
  | zero => intro _ _ _ _ _ _ _ _ _ _ _ _ _ _ hj; exact absurd hj (Nat.not_lt_zero _)
  | succ j ih =>
    intro v_at v_end v_token v_number v_name x2 i0 i1 i2 i3 i4 i5 i6 i7 hj
    exact sFX7_next_156 n hn v_size a_text gE gT (FX7_next_156L n v_size a_text j) (((v_end).toInt - (x2).toInt).toNat) (fun y0 y1 y2 y3 y4 y5 w0 w1 w2 w3 w4 w5 w6 w7 hlt => ih y0 y1 y2 y3 y4 y5 w0 w1 w2 w3 w4 w5 w6 w7 (by omega)) v_at v_end v_token v_number v_name x2 i0 i1 i2 i3 i4 i5 i6 i7 (Nat.le_refl _)
set_option maxHeartbeats 2000000 in
theorem sFX7_next_119 (n : Nat) (hn : n = 2200000000) (v_size : Int32) (a_text : Nat → Int32) (gE : Int) (gT : Int) (k119 : Int32 → Int32 → Int32 → Int32 → Int64 → Option (Unit × Int32 × Int32 × Int32 × Int32 × Int64)) (mB119 : Nat) (hk119 : ∀ (v_at : Int32) (v_end : Int32) (v_token : Int32) (v_number : Int32) (v_name : Int64), (0 ≤ (v_end).toInt) → ((v_end).toInt ≤ (v_size).toInt) → ((v_size).toInt ≤ 1200) → (0 ≤ gE) → (gE ≤ (v_at).toInt) → ((v_at).toInt < (v_end).toInt) → ((v_size).toInt - (v_end).toInt).toNat < mB119 → OK (k119 v_at v_end v_token v_number v_name) (fun u => (gE ≤ (u.2.1).toInt) ∧ ((u.2.1).toInt ≤ (u.2.2.1).toInt) ∧ ((u.2.2.1).toInt ≤ (v_size).toInt) ∧ ((u.2.2.2.1).toInt ≠ 0 → (u.2.1).toInt < (u.2.2.1).toInt) ∧ ((u.2.2.2.1).toInt = 4 → (0 ≤ (u.2.2.2.2.1).toInt ∧ (u.2.2.2.2.1).toInt ≤ 99999)) ∧ ((u.2.2.2.1).toInt = 4 → (sgv v_size a_text (u.2.2.1).toInt < 48 ∨ 57 < sgv v_size a_text (u.2.2.1).toInt)) ∧ ((gT = 4 ∧ (u.2.2.2.1).toInt = 4) → gE < (u.2.1).toInt))) (v_at : Int32) (v_end : Int32) (v_token : Int32) (v_number : Int32) (v_name : Int64) (i0 : 0 ≤ (v_end).toInt) (i1 : (v_end).toInt ≤ (v_size).toInt) (i2 : (v_size).toInt ≤ 1200) (i3 : 0 ≤ gE) (i4 : gE ≤ (v_at).toInt) (i5 : (v_at).toInt < (v_end).toInt) (hmu : ((v_size).toInt - (v_end).toInt).toNat ≤ mB119) : OK (FX7_next_119 n v_size a_text k119 v_at v_end v_token v_number v_name) (fun u => (gE ≤ (u.2.1).toInt) ∧ ((u.2.1).toInt ≤ (u.2.2.1).toInt) ∧ ((u.2.2.1).toInt ≤ (v_size).toInt) ∧ ((u.2.2.2.1).toInt ≠ 0 → (u.2.1).toInt < (u.2.2.1).toInt) ∧ ((u.2.2.2.1).toInt = 4 → (0 ≤ (u.2.2.2.2.1).toInt ∧ (u.2.2.2.2.1).toInt ≤ 99999)) ∧ ((u.2.2.2.1).toInt = 4 → (sgv v_size a_text (u.2.2.1).toInt < 48 ∨ 57 < sgv v_size a_text (u.2.2.1).toInt)) ∧ ((gT = 4 ∧ (u.2.2.2.1).toInt = 4) → gE < (u.2.1).toInt)) := by
  unfold FX7_next_119
  refine OK_bd (sX7_sign n hn v_size a_text v_end i0 i2) (fun u_36 p_u_36 => ?_)
  obtain ⟨c_sg, p2194, p2195, p2196⟩ := p_u_36
  refine OK_bd (sX7_isLetter n hn u_36.1) (fun u_38 p_u_38 => ?_)
  have p2197 := p_u_38
  clear p_u_38
  refine OK_if (fun c2198 => ?_) (fun c2198 => ?_)
  · have v2199 : HQ ((0 : Int32)).toInt 0 := HQ.mk (by decide)
    have f2200 := eq32k rfl v2199.out c2198
    exact sFX7_next_156L n hn v_size a_text gE gT n v_at v_end v_token v_number (0 : Int64) v_at i0 i1 i2 i3 i4 i5 (by omega) (by omega) (by omega)
  · have v2201 : HQ ((0 : Int32)).toInt 0 := HQ.mk (by decide)
    have f2202 := neq32k rfl v2201.out c2198
    have v2203 : HQ ((1 : Int32)).toInt 1 := HQ.mk (by decide)
    have v2204 : HQ ((v_end + (1 : Int32))).toInt ((v_end).toInt + 1) := HQ.mk (addV rfl v2203.out (by omega) (by omega))
    refine OK_lt (fun x_40 e_x_40 => ?_)
    have f2205 : (x_40).toInt = ((v_end).toInt + 1) := by rw [e_x_40]; exact v2204.out
    exact hk119 v_at x_40 v_token v_number v_name (by omega) (by omega) i2 i3 i4 (by omega) (by omega)
theorem sFX7_next_119L (n : Nat) (hn : n = 2200000000) (v_size : Int32) (a_text : Nat → Int32) (gE : Int) (gT : Int) : ∀ (j : Nat) (v_at : Int32) (v_end : Int32) (v_token : Int32) (v_number : Int32) (v_name : Int64), (0 ≤ (v_end).toInt) → ((v_end).toInt ≤ (v_size).toInt) → ((v_size).toInt ≤ 1200) → (0 ≤ gE) → (gE ≤ (v_at).toInt) → ((v_at).toInt < (v_end).toInt) → ((v_size).toInt - (v_end).toInt).toNat < j → OK (FX7_next_119L n v_size a_text j v_at v_end v_token v_number v_name) (fun u => (gE ≤ (u.2.1).toInt) ∧ ((u.2.1).toInt ≤ (u.2.2.1).toInt) ∧ ((u.2.2.1).toInt ≤ (v_size).toInt) ∧ ((u.2.2.2.1).toInt ≠ 0 → (u.2.1).toInt < (u.2.2.1).toInt) ∧ ((u.2.2.2.1).toInt = 4 → (0 ≤ (u.2.2.2.2.1).toInt ∧ (u.2.2.2.2.1).toInt ≤ 99999)) ∧ ((u.2.2.2.1).toInt = 4 → (sgv v_size a_text (u.2.2.1).toInt < 48 ∨ 57 < sgv v_size a_text (u.2.2.1).toInt)) ∧ ((gT = 4 ∧ (u.2.2.2.1).toInt = 4) → gE < (u.2.1).toInt)) := by
  intro j
  induction j with
  | zero => intro _ _ _ _ _ _ _ _ _ _ _ hj; exact absurd hj (Nat.not_lt_zero _)
  | succ j ih =>
    intro v_at v_end v_token v_number v_name i0 i1 i2 i3 i4 i5 hj
    exact sFX7_next_119 n hn v_size a_text gE gT (FX7_next_119L n v_size a_text j) (((v_size).toInt - (v_end).toInt).toNat) (fun y0 y1 y2 y3 y4 w0 w1 w2 w3 w4 w5 hlt => ih y0 y1 y2 y3 y4 w0 w1 w2 w3 w4 w5 (by omega)) v_at v_end v_token v_number v_name i0 i1 i2 i3 i4 i5 (Nat.le_refl _)
set_option maxHeartbeats 2000000 in
theorem sFX7_next_309 (n : Nat) (hn : n = 2200000000) (v_size : Int32) (a_text : Nat → Int32) (gE : Int) (gT : Int) (k259 : Int32 → Int32 → Int32 → Int32 → Int64 → Option (Unit × Int32 × Int32 × Int32 × Int32 × Int64)) (mB259 : Nat) (hk259 : ∀ (v_at : Int32) (v_end : Int32) (v_token : Int32) (v_number : Int32) (v_name : Int64), (0 ≤ (v_end).toInt) → ((v_end).toInt ≤ (v_size).toInt) → ((v_size).toInt ≤ 1200) → (0 ≤ gE) → (gE ≤ (v_at).toInt) → (gT = 4 → gE < (v_at).toInt) → ((v_at).toInt < (v_size).toInt) → ((v_at).toInt < (v_end).toInt ∨ ((v_at).toInt = (v_end).toInt ∧ 48 ≤ sgv v_size a_text (v_at).toInt ∧ sgv v_size a_text (v_at).toInt ≤ 57)) → (((v_end).toInt - (v_at).toInt = 0 ∧ 0 ≤ (v_number).toInt ∧ (v_number).toInt ≤ 0) ∨ ((v_end).toInt - (v_at).toInt = 1 ∧ 0 ≤ (v_number).toInt ∧ (v_number).toInt ≤ 9) ∨ ((v_end).toInt - (v_at).toInt = 2 ∧ 0 ≤ (v_number).toInt ∧ (v_number).toInt ≤ 99) ∨ ((v_end).toInt - (v_at).toInt = 3 ∧ 0 ≤ (v_number).toInt ∧ (v_number).toInt ≤ 999) ∨ ((v_end).toInt - (v_at).toInt = 4 ∧ 0 ≤ (v_number).toInt ∧ (v_number).toInt ≤ 9999) ∨ (5 ≤ (v_end).toInt - (v_at).toInt ∧ 0 ≤ (v_number).toInt ∧ (v_number).toInt ≤ 99999)) → ((v_size).toInt - (v_end).toInt).toNat < mB259 → OK (k259 v_at v_end v_token v_number v_name) (fun u => (gE ≤ (u.2.1).toInt) ∧ ((u.2.1).toInt ≤ (u.2.2.1).toInt) ∧ ((u.2.2.1).toInt ≤ (v_size).toInt) ∧ ((u.2.2.2.1).toInt ≠ 0 → (u.2.1).toInt < (u.2.2.1).toInt) ∧ ((u.2.2.2.1).toInt = 4 → (0 ≤ (u.2.2.2.2.1).toInt ∧ (u.2.2.2.2.1).toInt ≤ 99999)) ∧ ((u.2.2.2.1).toInt = 4 → (sgv v_size a_text (u.2.2.1).toInt < 48 ∨ 57 < sgv v_size a_text (u.2.2.1).toInt)) ∧ ((gT = 4 ∧ (u.2.2.2.1).toInt = 4) → gE < (u.2.1).toInt))) (v_at : Int32) (v_end : Int32) (v_token : Int32) (v_number : Int32) (v_name : Int64) (i0 : 0 ≤ (v_end).toInt) (i1 : (v_end).toInt ≤ (v_size).toInt) (i2 : (v_size).toInt ≤ 1200) (i3 : 0 ≤ gE) (i4 : gE ≤ (v_at).toInt) (i5 : gT = 4 → gE < (v_at).toInt) (i6 : (v_at).toInt ≤ (v_end).toInt) (i7 : (v_end).toInt < (v_size).toInt) (i8 : ((v_end).toInt - (v_at).toInt = 0 ∧ 0 ≤ (v_number).toInt ∧ (v_number).toInt ≤ 9) ∨ ((v_end).toInt - (v_at).toInt = 1 ∧ 0 ≤ (v_number).toInt ∧ (v_number).toInt ≤ 99) ∨ ((v_end).toInt - (v_at).toInt = 2 ∧ 0 ≤ (v_number).toInt ∧ (v_number).toInt ≤ 999) ∨ ((v_end).toInt - (v_at).toInt = 3 ∧ 0 ≤ (v_number).toInt ∧ (v_number).toInt ≤ 9999) ∨ (4 ≤ (v_end).toInt - (v_at).toInt ∧ 0 ≤ (v_number).toInt ∧ (v_number).toInt ≤ 99999)) (i9 : ((v_size).toInt - (v_end).toInt).toNat ≤ mB259) : OK (FX7_next_309 n v_size a_text k259 v_at v_end v_token v_number v_name) (fun u => (gE ≤ (u.2.1).toInt) ∧ ((u.2.1).toInt ≤ (u.2.2.1).toInt) ∧ ((u.2.2.1).toInt ≤ (v_size).toInt) ∧ ((u.2.2.2.1).toInt ≠ 0 → (u.2.1).toInt < (u.2.2.1).toInt) ∧ ((u.2.2.2.1).toInt = 4 → (0 ≤ (u.2.2.2.2.1).toInt ∧ (u.2.2.2.2.1).toInt ≤ 99999)) ∧ ((u.2.2.2.1).toInt = 4 → (sgv v_size a_text (u.2.2.1).toInt < 48 ∨ 57 < sgv v_size a_text (u.2.2.1).toInt)) ∧ ((gT = 4 ∧ (u.2.2.2.1).toInt = 4) → gE < (u.2.1).toInt)) := by
  unfold FX7_next_309
  have v2206 : HQ ((1 : Int32)).toInt 1 := HQ.mk (by decide)
  have v2207 : HQ ((v_end + (1 : Int32))).toInt ((v_end).toInt + 1) := HQ.mk (addV rfl v2206.out (by omega) (by omega))
  refine OK_lt (fun x_41 e_x_41 => ?_)
  have f2208 : (x_41).toInt = ((v_end).toInt + 1) := by rw [e_x_41]; exact v2207.out
  exact hk259 v_at x_41 v_token v_number v_name (by omega) (by omega) i2 i3 i4 i5 (by omega) (by omega) (by omega) (by omega)
set_option maxHeartbeats 2000000 in
theorem sFX7_next_355 (n : Nat) (hn : n = 2200000000) (v_size : Int32) (a_text : Nat → Int32) (gE : Int) (gT : Int) (v_at : Int32) (v_end : Int32) (v_token : Int32) (v_number : Int32) (v_name : Int64) (y0 : Int32) (i0 : 0 ≤ (v_end).toInt) (i1 : (v_end).toInt ≤ (v_size).toInt) (i2 : (v_size).toInt ≤ 1200) (i3 : 0 ≤ gE) (i4 : gE ≤ (v_at).toInt) (i5 : (v_at).toInt < (v_end).toInt) (i6 : (y0).toInt = 4 → (0 ≤ (v_number).toInt ∧ (v_number).toInt ≤ 99999)) (i7 : (y0).toInt = 4 → (sgv v_size a_text (v_end).toInt < 48 ∨ 57 < sgv v_size a_text (v_end).toInt)) (i8 : (gT = 4 ∧ (y0).toInt = 4) → gE < (v_at).toInt) : OK (FX7_next_355 n v_size a_text v_at v_end v_token v_number v_name y0) (fun u => (gE ≤ (u.2.1).toInt) ∧ ((u.2.1).toInt ≤ (u.2.2.1).toInt) ∧ ((u.2.2.1).toInt ≤ (v_size).toInt) ∧ ((u.2.2.2.1).toInt ≠ 0 → (u.2.1).toInt < (u.2.2.1).toInt) ∧ ((u.2.2.2.1).toInt = 4 → (0 ≤ (u.2.2.2.2.1).toInt ∧ (u.2.2.2.2.1).toInt ≤ 99999)) ∧ ((u.2.2.2.1).toInt = 4 → (sgv v_size a_text (u.2.2.1).toInt < 48 ∨ 57 < sgv v_size a_text (u.2.2.1).toInt)) ∧ ((gT = 4 ∧ (u.2.2.2.1).toInt = 4) → gE < (u.2.1).toInt)) := by
  unfold FX7_next_355
  exact OK_some (show (gE ≤ (v_at).toInt) ∧ ((v_at).toInt ≤ (v_end).toInt) ∧ ((v_end).toInt ≤ (v_size).toInt) ∧ ((y0).toInt ≠ 0 → (v_at).toInt < (v_end).toInt) ∧ ((y0).toInt = 4 → (0 ≤ (v_number).toInt ∧ (v_number).toInt ≤ 99999)) ∧ ((y0).toInt = 4 → (sgv v_size a_text (v_end).toInt < 48 ∨ 57 < sgv v_size a_text (v_end).toInt)) ∧ ((gT = 4 ∧ (y0).toInt = 4) → gE < (v_at).toInt) from ⟨i4, (by omega), i1, (by omega), i6, i7, i8⟩)
set_option maxHeartbeats 2000000 in
theorem sFX7_next_350 (n : Nat) (hn : n = 2200000000) (v_size : Int32) (a_text : Nat → Int32) (gE : Int) (gT : Int) (v_at : Int32) (v_end : Int32) (v_token : Int32) (v_number : Int32) (v_name : Int64) (i0 : 0 ≤ (v_end).toInt) (i1 : (v_end).toInt ≤ (v_size).toInt) (i2 : (v_size).toInt ≤ 1200) (i3 : 0 ≤ gE) (i4 : gE ≤ (v_at).toInt) (i5 : (v_at).toInt < (v_end).toInt) : OK (FX7_next_350 n v_size a_text v_at v_end v_token v_number v_name) (fun u => (gE ≤ (u.2.1).toInt) ∧ ((u.2.1).toInt ≤ (u.2.2.1).toInt) ∧ ((u.2.2.1).toInt ≤ (v_size).toInt) ∧ ((u.2.2.2.1).toInt ≠ 0 → (u.2.1).toInt < (u.2.2.1).toInt) ∧ ((u.2.2.2.1).toInt = 4 → (0 ≤ (u.2.2.2.2.1).toInt ∧ (u.2.2.2.2.1).toInt ≤ 99999)) ∧ ((u.2.2.2.1).toInt = 4 → (sgv v_size a_text (u.2.2.1).toInt < 48 ∨ 57 < sgv v_size a_text (u.2.2.1).toInt)) ∧ ((gT = 4 ∧ (u.2.2.2.1).toInt = 4) → gE < (u.2.1).toInt)) := by
  unfold FX7_next_350
  have v2209 : HQ ((1 : Int32)).toInt 1 := HQ.mk (by decide)
  exact sFX7_next_355 n hn v_size a_text gE gT v_at v_end v_token v_number v_name (1 : Int32) i0 i1 i2 i3 i4 i5 (by (rw [v2209.out]) <;> omega) (by (rw [v2209.out]) <;> omega) (by (rw [v2209.out]) <;> omega)
set_option maxHeartbeats 2000000 in
theorem sFX7_next_259 (n : Nat) (hn : n = 2200000000) (v_size : Int32) (a_text : Nat → Int32) (gE : Int) (gT : Int) (k259 : Int32 → Int32 → Int32 → Int32 → Int64 → Option (Unit × Int32 × Int32 × Int32 × Int32 × Int64)) (mB259 : Nat) (hk259 : ∀ (v_at : Int32) (v_end : Int32) (v_token : Int32) (v_number : Int32) (v_name : Int64), (0 ≤ (v_end).toInt) → ((v_end).toInt ≤ (v_size).toInt) → ((v_size).toInt ≤ 1200) → (0 ≤ gE) → (gE ≤ (v_at).toInt) → (gT = 4 → gE < (v_at).toInt) → ((v_at).toInt < (v_size).toInt) → ((v_at).toInt < (v_end).toInt ∨ ((v_at).toInt = (v_end).toInt ∧ 48 ≤ sgv v_size a_text (v_at).toInt ∧ sgv v_size a_text (v_at).toInt ≤ 57)) → (((v_end).toInt - (v_at).toInt = 0 ∧ 0 ≤ (v_number).toInt ∧ (v_number).toInt ≤ 0) ∨ ((v_end).toInt - (v_at).toInt = 1 ∧ 0 ≤ (v_number).toInt ∧ (v_number).toInt ≤ 9) ∨ ((v_end).toInt - (v_at).toInt = 2 ∧ 0 ≤ (v_number).toInt ∧ (v_number).toInt ≤ 99) ∨ ((v_end).toInt - (v_at).toInt = 3 ∧ 0 ≤ (v_number).toInt ∧ (v_number).toInt ≤ 999) ∨ ((v_end).toInt - (v_at).toInt = 4 ∧ 0 ≤ (v_number).toInt ∧ (v_number).toInt ≤ 9999) ∨ (5 ≤ (v_end).toInt - (v_at).toInt ∧ 0 ≤ (v_number).toInt ∧ (v_number).toInt ≤ 99999)) → ((v_size).toInt - (v_end).toInt).toNat < mB259 → OK (k259 v_at v_end v_token v_number v_name) (fun u => (gE ≤ (u.2.1).toInt) ∧ ((u.2.1).toInt ≤ (u.2.2.1).toInt) ∧ ((u.2.2.1).toInt ≤ (v_size).toInt) ∧ ((u.2.2.2.1).toInt ≠ 0 → (u.2.1).toInt < (u.2.2.1).toInt) ∧ ((u.2.2.2.1).toInt = 4 → (0 ≤ (u.2.2.2.2.1).toInt ∧ (u.2.2.2.2.1).toInt ≤ 99999)) ∧ ((u.2.2.2.1).toInt = 4 → (sgv v_size a_text (u.2.2.1).toInt < 48 ∨ 57 < sgv v_size a_text (u.2.2.1).toInt)) ∧ ((gT = 4 ∧ (u.2.2.2.1).toInt = 4) → gE < (u.2.1).toInt))) (v_at : Int32) (v_end : Int32) (v_token : Int32) (v_number : Int32) (v_name : Int64) (i0 : 0 ≤ (v_end).toInt) (i1 : (v_end).toInt ≤ (v_size).toInt) (i2 : (v_size).toInt ≤ 1200) (i3 : 0 ≤ gE) (i4 : gE ≤ (v_at).toInt) (i5 : gT = 4 → gE < (v_at).toInt) (i6 : (v_at).toInt < (v_size).toInt) (i7 : (v_at).toInt < (v_end).toInt ∨ ((v_at).toInt = (v_end).toInt ∧ 48 ≤ sgv v_size a_text (v_at).toInt ∧ sgv v_size a_text (v_at).toInt ≤ 57)) (i8 : ((v_end).toInt - (v_at).toInt = 0 ∧ 0 ≤ (v_number).toInt ∧ (v_number).toInt ≤ 0) ∨ ((v_end).toInt - (v_at).toInt = 1 ∧ 0 ≤ (v_number).toInt ∧ (v_number).toInt ≤ 9) ∨ ((v_end).toInt - (v_at).toInt = 2 ∧ 0 ≤ (v_number).toInt ∧ (v_number).toInt ≤ 99) ∨ ((v_end).toInt - (v_at).toInt = 3 ∧ 0 ≤ (v_number).toInt ∧ (v_number).toInt ≤ 999) ∨ ((v_end).toInt - (v_at).toInt = 4 ∧ 0 ≤ (v_number).toInt ∧ (v_number).toInt ≤ 9999) ∨ (5 ≤ (v_end).toInt - (v_at).toInt ∧ 0 ≤ (v_number).toInt ∧ (v_number).toInt ≤ 99999)) (hmu : ((v_size).toInt - (v_end).toInt).toNat ≤ mB259) : OK (FX7_next_259 n v_size a_text k259 v_at v_end v_token v_number v_name) (fun u => (gE ≤ (u.2.1).toInt) ∧ ((u.2.1).toInt ≤ (u.2.2.1).toInt) ∧ ((u.2.2.1).toInt ≤ (v_size).toInt) ∧ ((u.2.2.2.1).toInt ≠ 0 → (u.2.1).toInt < (u.2.2.1).toInt) ∧ ((u.2.2.2.1).toInt = 4 → (0 ≤ (u.2.2.2.2.1).toInt ∧ (u.2.2.2.2.1).toInt ≤ 99999)) ∧ ((u.2.2.2.1).toInt = 4 → (sgv v_size a_text (u.2.2.1).toInt < 48 ∨ 57 < sgv v_size a_text (u.2.2.1).toInt)) ∧ ((gT = 4 ∧ (u.2.2.2.1).toInt = 4) → gE < (u.2.1).toInt)) := by
  unfold FX7_next_259
  have hcg := sgv_c v_size a_text (a := (v_at).toInt) (b := (v_end).toInt)
  refine OK_bd (sX7_sign n hn v_size a_text v_end i0 i2) (fun u_21 p_u_21 => ?_)
  obtain ⟨c_sg, p2210, p2211, p2212⟩ := p_u_21
  refine OK_bd (sX7_isDigit n hn u_21.1) (fun u_23 p_u_23 => ?_)
  have p2213 := p_u_23
  clear p_u_23
  refine OK_if (fun c2214 => ?_) (fun c2214 => ?_)
  · have v2215 : HQ ((0 : Int32)).toInt 0 := HQ.mk (by decide)
    have f2216 := eq32k rfl v2215.out c2214
    refine OK_if (fun c2217 => ?_) (fun c2217 => ?_)
    · have v2218 : HQ ((5 : Int32)).toInt 5 := HQ.mk (by decide)
      have v2219 : HQ ((v_end - v_at)).toInt ((v_end).toInt - (v_at).toInt) := HQ.mk (subV rfl rfl (by omega) (by omega))
      have f2220 := lt32k v2218.out v2219.out c2217
      exact sFX7_next_350 n hn v_size a_text gE gT v_at v_end v_token v_number v_name i0 i1 i2 i3 i4 (by omega)
    · have v2221 : HQ ((5 : Int32)).toInt 5 := HQ.mk (by decide)
      have v2222 : HQ ((v_end - v_at)).toInt ((v_end).toInt - (v_at).toInt) := HQ.mk (subV rfl rfl (by omega) (by omega))
      have f2223 := nlt32k v2221.out v2222.out c2217
      refine OK_bd (sX7_sign n hn v_size a_text v_end i0 i2) (fun u_27 p_u_27 => ?_)
      obtain ⟨c_sg, p2224, p2225, p2226⟩ := p_u_27
      refine OK_bd (sX7_isLetter n hn u_27.1) (fun u_29 p_u_29 => ?_)
      have p2227 := p_u_29
      clear p_u_29
      refine OK_if (fun c2228 => ?_) (fun c2228 => ?_)
      · have f2229 := eq32k rfl v2215.out c2228
        have v2230 : HQ ((4 : Int32)).toInt 4 := HQ.mk (by decide)
        exact sFX7_next_355 n hn v_size a_text gE gT v_at v_end v_token v_number v_name (4 : Int32) i0 i1 i2 i3 i4 (by omega) (by (rw [v2230.out]) <;> omega) (by (rw [v2230.out]) <;> omega) (by (rw [v2230.out]) <;> omega)
      · have f2231 := neq32k rfl v2215.out c2228
        exact sFX7_next_350 n hn v_size a_text gE gT v_at v_end v_token v_number v_name i0 i1 i2 i3 i4 (by omega)
  · have v2232 : HQ ((0 : Int32)).toInt 0 := HQ.mk (by decide)
    have f2233 := neq32k rfl v2232.out c2214
    refine OK_if (fun c2234 => ?_) (fun c2234 => ?_)
    · have v2235 : HQ ((5 : Int32)).toInt 5 := HQ.mk (by decide)
      have v2236 : HQ ((v_end - v_at)).toInt ((v_end).toInt - (v_at).toInt) := HQ.mk (subV rfl rfl (by omega) (by omega))
      have f2237 := le32k v2235.out v2236.out c2234
      exact sFX7_next_309 n hn v_size a_text gE gT k259 mB259 hk259 v_at v_end v_token v_number v_name i0 i1 i2 i3 i4 i5 (by omega) (by omega) (by omega) (by omega)
    · have v2238 : HQ ((5 : Int32)).toInt 5 := HQ.mk (by decide)
      have v2239 : HQ ((v_end - v_at)).toInt ((v_end).toInt - (v_at).toInt) := HQ.mk (subV rfl rfl (by omega) (by omega))
      have f2240 := nle32k v2238.out v2239.out c2234
      refine OK_bd (sX7_sign n hn v_size a_text v_end i0 i2) (fun u_33 p_u_33 => ?_)
      obtain ⟨c_sg, p2241, p2242, p2243⟩ := p_u_33
      have v2244 : HQ ((10 : Int32)).toInt 10 := HQ.mk (by decide)
      have v2245 : HQ (((10 : Int32) * v_number)).toInt (10 * (v_number).toInt) := HQ.mk (mulV v2244.out rfl (by omega) (by omega))
      have v2246 : HQ ((((10 : Int32) * v_number) + u_33.1)).toInt ((10 * (v_number).toInt) + (u_33.1).toInt) := HQ.mk (addV v2245.out rfl (by omega) (by omega))
      have v2247 : HQ ((48 : Int32)).toInt 48 := HQ.mk (by decide)
      have v2248 : HQ (((((10 : Int32) * v_number) + u_33.1) - (48 : Int32))).toInt (((10 * (v_number).toInt) + (u_33.1).toInt) - 48) := HQ.mk (subV v2246.out v2247.out (by omega) (by omega))
      refine OK_lt (fun x_34 e_x_34 => ?_)
      have f2249 : (x_34).toInt = (((10 * (v_number).toInt) + (u_33.1).toInt) - 48) := by rw [e_x_34]; exact v2248.out
      exact sFX7_next_309 n hn v_size a_text gE gT k259 mB259 hk259 v_at v_end v_token x_34 v_name i0 i1 i2 i3 i4 i5 (by omega) (by omega) (by omega) (by omega)
theorem sFX7_next_259L (n : Nat) (hn : n = 2200000000) (v_size : Int32) (a_text : Nat → Int32) (gE : Int) (gT : Int) : ∀ (j : Nat) (v_at : Int32) (v_end : Int32) (v_token : Int32) (v_number : Int32) (v_name : Int64), (0 ≤ (v_end).toInt) → ((v_end).toInt ≤ (v_size).toInt) → ((v_size).toInt ≤ 1200) → (0 ≤ gE) → (gE ≤ (v_at).toInt) → (gT = 4 → gE < (v_at).toInt) → ((v_at).toInt < (v_size).toInt) → ((v_at).toInt < (v_end).toInt ∨ ((v_at).toInt = (v_end).toInt ∧ 48 ≤ sgv v_size a_text (v_at).toInt ∧ sgv v_size a_text (v_at).toInt ≤ 57)) → (((v_end).toInt - (v_at).toInt = 0 ∧ 0 ≤ (v_number).toInt ∧ (v_number).toInt ≤ 0) ∨ ((v_end).toInt - (v_at).toInt = 1 ∧ 0 ≤ (v_number).toInt ∧ (v_number).toInt ≤ 9) ∨ ((v_end).toInt - (v_at).toInt = 2 ∧ 0 ≤ (v_number).toInt ∧ (v_number).toInt ≤ 99) ∨ ((v_end).toInt - (v_at).toInt = 3 ∧ 0 ≤ (v_number).toInt ∧ (v_number).toInt ≤ 999) ∨ ((v_end).toInt - (v_at).toInt = 4 ∧ 0 ≤ (v_number).toInt ∧ (v_number).toInt ≤ 9999) ∨ (5 ≤ (v_end).toInt - (v_at).toInt ∧ 0 ≤ (v_number).toInt ∧ (v_number).toInt ≤ 99999)) → ((v_size).toInt - (v_end).toInt).toNat < j → OK (FX7_next_259L n v_size a_text j v_at v_end v_token v_number v_name) (fun u => (gE ≤ (u.2.1).toInt) ∧ ((u.2.1).toInt ≤ (u.2.2.1).toInt) ∧ ((u.2.2.1).toInt ≤ (v_size).toInt) ∧ ((u.2.2.2.1).toInt ≠ 0 → (u.2.1).toInt < (u.2.2.1).toInt) ∧ ((u.2.2.2.1).toInt = 4 → (0 ≤ (u.2.2.2.2.1).toInt ∧ (u.2.2.2.2.1).toInt ≤ 99999)) ∧ ((u.2.2.2.1).toInt = 4 → (sgv v_size a_text (u.2.2.1).toInt < 48 ∨ 57 < sgv v_size a_text (u.2.2.1).toInt)) ∧ ((gT = 4 ∧ (u.2.2.2.1).toInt = 4) → gE < (u.2.1).toInt)) := by
  intro j
  induction j with
  | zero => intro _ _ _ _ _ _ _ _ _ _ _ _ _ _ hj; exact absurd hj (Nat.not_lt_zero _)
  | succ j ih =>
    intro v_at v_end v_token v_number v_name i0 i1 i2 i3 i4 i5 i6 i7 i8 hj
    exact sFX7_next_259 n hn v_size a_text gE gT (FX7_next_259L n v_size a_text j) (((v_size).toInt - (v_end).toInt).toNat) (fun y0 y1 y2 y3 y4 w0 w1 w2 w3 w4 w5 w6 w7 w8 hlt => ih y0 y1 y2 y3 y4 w0 w1 w2 w3 w4 w5 w6 w7 w8 (by omega)) v_at v_end v_token v_number v_name i0 i1 i2 i3 i4 i5 i6 i7 i8 (Nat.le_refl _)
set_option maxHeartbeats 2000000 in
theorem sFX7_next_58 (n : Nat) (hn : n = 2200000000) (v_size : Int32) (a_text : Nat → Int32) (gE : Int) (gT : Int) (v_at : Int32) (v_end : Int32) (v_token : Int32) (v_number : Int32) (v_name : Int64) (i0 : 0 ≤ (v_end).toInt) (i1 : (v_end).toInt ≤ (v_size).toInt) (i2 : (v_size).toInt ≤ 1200) (i3 : gE = (v_end).toInt) (i4 : gT = 4 → (sgv v_size a_text (v_end).toInt < 48 ∨ 57 < sgv v_size a_text (v_end).toInt)) (i5 : 0 ≤ gE) (i6 : (v_end).toInt ≤ (v_at).toInt) (i7 : (v_at).toInt ≤ (v_size).toInt) : OK (FX7_next_58 n v_size a_text v_at v_end v_token v_number v_name) (fun u => (gE ≤ (u.2.1).toInt) ∧ ((u.2.1).toInt ≤ (u.2.2.1).toInt) ∧ ((u.2.2.1).toInt ≤ (v_size).toInt) ∧ ((u.2.2.2.1).toInt ≠ 0 → (u.2.1).toInt < (u.2.2.1).toInt) ∧ ((u.2.2.2.1).toInt = 4 → (0 ≤ (u.2.2.2.2.1).toInt ∧ (u.2.2.2.2.1).toInt ≤ 99999)) ∧ ((u.2.2.2.1).toInt = 4 → (sgv v_size a_text (u.2.2.1).toInt < 48 ∨ 57 < sgv v_size a_text (u.2.2.1).toInt)) ∧ ((gT = 4 ∧ (u.2.2.2.1).toInt = 4) → gE < (u.2.1).toInt)) := by
  unfold FX7_next_58
  have hcg := sgv_c v_size a_text (a := (v_at).toInt) (b := (v_end).toInt)
  refine OK_bd (sX7_sign n hn v_size a_text v_at (by omega) i2) (fun u_9 p_u_9 => ?_)
  obtain ⟨c_sg, p2250, p2251, p2252⟩ := p_u_9
  have v2253 : HQ ((1 : Int32)).toInt 1 := HQ.mk (by decide)
  have v2254 : HQ ((v_at + (1 : Int32))).toInt ((v_at).toInt + 1) := HQ.mk (addV rfl v2253.out (by omega) (by omega))
  refine OK_lt (fun x_10 e_x_10 => ?_)
  have f2255 : (x_10).toInt = ((v_at).toInt + 1) := by rw [e_x_10]; exact v2254.out
  refine OK_if (fun c2256 => ?_) (fun c2256 => ?_)
  · have f2257 := lt32k rfl rfl c2256
    refine OK_bd (sX7_isLetter n hn u_9.1) (fun u_13 p_u_13 => ?_)
    have p2258 := p_u_13
    clear p_u_13
    refine OK_if (fun c2259 => ?_) (fun c2259 => ?_)
    · have v2260 : HQ ((0 : Int32)).toInt 0 := HQ.mk (by decide)
      have f2261 := eq32k rfl v2260.out c2259
      refine OK_bd (sX7_isDigit n hn u_9.1) (fun u_16 p_u_16 => ?_)
      have p2262 := p_u_16
      clear p_u_16
      refine OK_if (fun c2263 => ?_) (fun c2263 => ?_)
      · have f2264 := eq32k rfl v2260.out c2263
        refine OK_if (fun c2265 => ?_) (fun c2265 => ?_)
        · have v2266 : HQ ((59 : Int32)).toInt 59 := HQ.mk (by decide)
          have f2267 := eq32k rfl v2266.out c2265
          have v2268 : HQ ((5 : Int32)).toInt 5 := HQ.mk (by decide)
          exact OK_some (show (gE ≤ (v_at).toInt) ∧ ((v_at).toInt ≤ (x_10).toInt) ∧ ((x_10).toInt ≤ (v_size).toInt) ∧ (((5 : Int32)).toInt ≠ 0 → (v_at).toInt < (x_10).toInt) ∧ (((5 : Int32)).toInt = 4 → (0 ≤ (v_number).toInt ∧ (v_number).toInt ≤ 99999)) ∧ (((5 : Int32)).toInt = 4 → (sgv v_size a_text (x_10).toInt < 48 ∨ 57 < sgv v_size a_text (x_10).toInt)) ∧ ((gT = 4 ∧ ((5 : Int32)).toInt = 4) → gE < (v_at).toInt) from ⟨(by omega), (by omega), (by omega), (by (rw [v2268.out]) <;> omega), (by (rw [v2268.out]) <;> omega), (by (rw [v2268.out]) <;> omega), (by (rw [v2268.out]) <;> omega)⟩)
        · have v2269 : HQ ((59 : Int32)).toInt 59 := HQ.mk (by decide)
          have f2270 := neq32k rfl v2269.out c2265
          exact OK_some (show (gE ≤ (v_at).toInt) ∧ ((v_at).toInt ≤ (x_10).toInt) ∧ ((x_10).toInt ≤ (v_size).toInt) ∧ (((1 : Int32)).toInt ≠ 0 → (v_at).toInt < (x_10).toInt) ∧ (((1 : Int32)).toInt = 4 → (0 ≤ (v_number).toInt ∧ (v_number).toInt ≤ 99999)) ∧ (((1 : Int32)).toInt = 4 → (sgv v_size a_text (x_10).toInt < 48 ∨ 57 < sgv v_size a_text (x_10).toInt)) ∧ ((gT = 4 ∧ ((1 : Int32)).toInt = 4) → gE < (v_at).toInt) from ⟨(by omega), (by omega), (by omega), (by (rw [v2253.out]) <;> omega), (by (rw [v2253.out]) <;> omega), (by (rw [v2253.out]) <;> omega), (by (rw [v2253.out]) <;> omega)⟩)
      · have f2271 := neq32k rfl v2260.out c2263
        exact sFX7_next_259L n hn v_size a_text gE gT n v_at v_at v_token (0 : Int32) v_name (by omega) i7 i2 i5 (by omega) (by omega) (by omega) (by omega) (by (rw [v2260.out]) <;> omega) (by omega)
    · have v2272 : HQ ((0 : Int32)).toInt 0 := HQ.mk (by decide)
      have f2273 := neq32k rfl v2272.out c2259
      exact sFX7_next_119L n hn v_size a_text gE gT n v_at x_10 v_token v_number v_name (by omega) (by omega) i2 i5 (by omega) (by omega) (by omega)
  · have f2274 := nlt32k rfl rfl c2256
    have v2275 : HQ ((0 : Int32)).toInt 0 := HQ.mk (by decide)
    exact OK_some (show (gE ≤ (v_size).toInt) ∧ ((v_size).toInt ≤ (v_size).toInt) ∧ ((v_size).toInt ≤ (v_size).toInt) ∧ (((0 : Int32)).toInt ≠ 0 → (v_size).toInt < (v_size).toInt) ∧ (((0 : Int32)).toInt = 4 → (0 ≤ (v_number).toInt ∧ (v_number).toInt ≤ 99999)) ∧ (((0 : Int32)).toInt = 4 → (sgv v_size a_text (v_size).toInt < 48 ∨ 57 < sgv v_size a_text (v_size).toInt)) ∧ ((gT = 4 ∧ ((0 : Int32)).toInt = 4) → gE < (v_size).toInt) from ⟨(by omega), (by omega), (by omega), (by (rw [v2275.out]) <;> omega), (by (rw [v2275.out]) <;> omega), (by (rw [v2275.out]) <;> omega), (by (rw [v2275.out]) <;> omega)⟩)
set_option maxHeartbeats 2000000 in
theorem sFX7_next_8 (n : Nat) (hn : n = 2200000000) (v_size : Int32) (a_text : Nat → Int32) (gE : Int) (gT : Int) (k8 : Int32 → Int32 → Int32 → Int32 → Int64 → Option (Unit × Int32 × Int32 × Int32 × Int32 × Int64)) (mB8 : Nat) (hk8 : ∀ (v_at : Int32) (v_end : Int32) (v_token : Int32) (v_number : Int32) (v_name : Int64), (0 ≤ (v_end).toInt) → ((v_end).toInt ≤ (v_size).toInt) → ((v_size).toInt ≤ 1200) → (gE = (v_end).toInt) → (gT = 4 → (sgv v_size a_text (v_end).toInt < 48 ∨ 57 < sgv v_size a_text (v_end).toInt)) → (0 ≤ gE) → ((v_end).toInt ≤ (v_at).toInt) → ((v_at).toInt ≤ (v_size).toInt) → ((v_size).toInt - (v_at).toInt).toNat < mB8 → OK (k8 v_at v_end v_token v_number v_name) (fun u => (gE ≤ (u.2.1).toInt) ∧ ((u.2.1).toInt ≤ (u.2.2.1).toInt) ∧ ((u.2.2.1).toInt ≤ (v_size).toInt) ∧ ((u.2.2.2.1).toInt ≠ 0 → (u.2.1).toInt < (u.2.2.1).toInt) ∧ ((u.2.2.2.1).toInt = 4 → (0 ≤ (u.2.2.2.2.1).toInt ∧ (u.2.2.2.2.1).toInt ≤ 99999)) ∧ ((u.2.2.2.1).toInt = 4 → (sgv v_size a_text (u.2.2.1).toInt < 48 ∨ 57 < sgv v_size a_text (u.2.2.1).toInt)) ∧ ((gT = 4 ∧ (u.2.2.2.1).toInt = 4) → gE < (u.2.1).toInt))) (v_at : Int32) (v_end : Int32) (v_token : Int32) (v_number : Int32) (v_name : Int64) (i0 : 0 ≤ (v_end).toInt) (i1 : (v_end).toInt ≤ (v_size).toInt) (i2 : (v_size).toInt ≤ 1200) (i3 : gE = (v_end).toInt) (i4 : gT = 4 → (sgv v_size a_text (v_end).toInt < 48 ∨ 57 < sgv v_size a_text (v_end).toInt)) (i5 : 0 ≤ gE) (i6 : (v_end).toInt ≤ (v_at).toInt) (i7 : (v_at).toInt ≤ (v_size).toInt) (hmu : ((v_size).toInt - (v_at).toInt).toNat ≤ mB8) : OK (FX7_next_8 n v_size a_text k8 v_at v_end v_token v_number v_name) (fun u => (gE ≤ (u.2.1).toInt) ∧ ((u.2.1).toInt ≤ (u.2.2.1).toInt) ∧ ((u.2.2.1).toInt ≤ (v_size).toInt) ∧ ((u.2.2.2.1).toInt ≠ 0 → (u.2.1).toInt < (u.2.2.1).toInt) ∧ ((u.2.2.2.1).toInt = 4 → (0 ≤ (u.2.2.2.2.1).toInt ∧ (u.2.2.2.2.1).toInt ≤ 99999)) ∧ ((u.2.2.2.1).toInt = 4 → (sgv v_size a_text (u.2.2.1).toInt < 48 ∨ 57 < sgv v_size a_text (u.2.2.1).toInt)) ∧ ((gT = 4 ∧ (u.2.2.2.1).toInt = 4) → gE < (u.2.1).toInt)) := by
  unfold FX7_next_8
  refine OK_if (fun c2276 => ?_) (fun c2276 => ?_)
  · have f2277 := le32k rfl rfl c2276
    exact sFX7_next_58 n hn v_size a_text gE gT v_at v_end v_token v_number v_name i0 i1 i2 i3 i4 i5 i6 i7
  · have f2278 := nle32k rfl rfl c2276
    refine OK_bd (sX7_sign n hn v_size a_text v_at (by omega) i2) (fun u_3 p_u_3 => ?_)
    obtain ⟨c_sg, p2279, p2280, p2281⟩ := p_u_3
    refine OK_if (fun c2282 => ?_) (fun c2282 => ?_)
    · have v2283 : HQ ((32 : Int32)).toInt 32 := HQ.mk (by decide)
      have f2284 := eq32k rfl v2283.out c2282
      exact sFX7_next_45 n hn v_size a_text gE gT k8 mB8 hk8 v_at v_end v_token v_number v_name i0 i1 i2 i3 i4 i5 i6 (by omega) (by omega)
    · have v2285 : HQ ((32 : Int32)).toInt 32 := HQ.mk (by decide)
      have f2286 := neq32k rfl v2285.out c2282
      refine OK_bd (sX7_sign n hn v_size a_text v_at (by omega) i2) (fun u_6 p_u_6 => ?_)
      obtain ⟨c_sg, p2287, p2288, p2289⟩ := p_u_6
      refine OK_if (fun c2290 => ?_) (fun c2290 => ?_)
      · have v2291 : HQ ((10 : Int32)).toInt 10 := HQ.mk (by decide)
        have f2292 := eq32k rfl v2291.out c2290
        exact sFX7_next_45 n hn v_size a_text gE gT k8 mB8 hk8 v_at v_end v_token v_number v_name i0 i1 i2 i3 i4 i5 i6 (by omega) (by omega)
      · have v2293 : HQ ((10 : Int32)).toInt 10 := HQ.mk (by decide)
        have f2294 := neq32k rfl v2293.out c2290
        exact sFX7_next_58 n hn v_size a_text gE gT v_at v_end v_token v_number v_name i0 i1 i2 i3 i4 i5 i6 i7
theorem sFX7_next_8L (n : Nat) (hn : n = 2200000000) (v_size : Int32) (a_text : Nat → Int32) (gE : Int) (gT : Int) : ∀ (j : Nat) (v_at : Int32) (v_end : Int32) (v_token : Int32) (v_number : Int32) (v_name : Int64), (0 ≤ (v_end).toInt) → ((v_end).toInt ≤ (v_size).toInt) → ((v_size).toInt ≤ 1200) → (gE = (v_end).toInt) → (gT = 4 → (sgv v_size a_text (v_end).toInt < 48 ∨ 57 < sgv v_size a_text (v_end).toInt)) → (0 ≤ gE) → ((v_end).toInt ≤ (v_at).toInt) → ((v_at).toInt ≤ (v_size).toInt) → ((v_size).toInt - (v_at).toInt).toNat < j → OK (FX7_next_8L n v_size a_text j v_at v_end v_token v_number v_name) (fun u => (gE ≤ (u.2.1).toInt) ∧ ((u.2.1).toInt ≤ (u.2.2.1).toInt) ∧ ((u.2.2.1).toInt ≤ (v_size).toInt) ∧ ((u.2.2.2.1).toInt ≠ 0 → (u.2.1).toInt < (u.2.2.1).toInt) ∧ ((u.2.2.2.1).toInt = 4 → (0 ≤ (u.2.2.2.2.1).toInt ∧ (u.2.2.2.2.1).toInt ≤ 99999)) ∧ ((u.2.2.2.1).toInt = 4 → (sgv v_size a_text (u.2.2.1).toInt < 48 ∨ 57 < sgv v_size a_text (u.2.2.1).toInt)) ∧ ((gT = 4 ∧ (u.2.2.2.1).toInt = 4) → gE < (u.2.1).toInt)) := by
  intro j
  induction j with
  | zero => intro _ _ _ _ _ _ _ _ _ _ _ _ _ hj; exact absurd hj (Nat.not_lt_zero _)
  | succ j ih =>
    intro v_at v_end v_token v_number v_name i0 i1 i2 i3 i4 i5 i6 i7 hj
    exact sFX7_next_8 n hn v_size a_text gE gT (FX7_next_8L n v_size a_text j) (((v_size).toInt - (v_at).toInt).toNat) (fun y0 y1 y2 y3 y4 w0 w1 w2 w3 w4 w5 w6 w7 hlt => ih y0 y1 y2 y3 y4 w0 w1 w2 w3 w4 w5 w6 w7 (by omega)) v_at v_end v_token v_number v_name i0 i1 i2 i3 i4 i5 i6 i7 (Nat.le_refl _)
set_option maxHeartbeats 2000000 in
theorem sX7_next (n : Nat) (hn : n = 2200000000) (v_size : Int32) (v_at : Int32) (v_end : Int32) (v_token : Int32) (v_number : Int32) (v_name : Int64) (a_text : Nat → Int32) (gE : Int) (gT : Int) (i0 : 0 ≤ (v_end).toInt) (i1 : (v_end).toInt ≤ (v_size).toInt) (i2 : (v_size).toInt ≤ 1200) (i3 : gE = (v_end).toInt) (i4 : gT = 4 → (sgv v_size a_text (v_end).toInt < 48 ∨ 57 < sgv v_size a_text (v_end).toInt)) (i5 : 0 ≤ gE) : OK (FX7_next n v_size v_at v_end v_token v_number v_name a_text) (fun u => (gE ≤ (u.2.1).toInt) ∧ ((u.2.1).toInt ≤ (u.2.2.1).toInt) ∧ ((u.2.2.1).toInt ≤ (v_size).toInt) ∧ ((u.2.2.2.1).toInt ≠ 0 → (u.2.1).toInt < (u.2.2.1).toInt) ∧ ((u.2.2.2.1).toInt = 4 → (0 ≤ (u.2.2.2.2.1).toInt ∧ (u.2.2.2.2.1).toInt ≤ 99999)) ∧ ((u.2.2.2.1).toInt = 4 → (sgv v_size a_text (u.2.2.1).toInt < 48 ∨ 57 < sgv v_size a_text (u.2.2.1).toInt)) ∧ ((gT = 4 ∧ (u.2.2.2.1).toInt = 4) → gE < (u.2.1).toInt)) := by
  unfold FX7_next
  exact sFX7_next_8L n hn v_size a_text gE gT n v_end v_end v_token v_number v_name i0 i1 i2 i3 i4 i5 (by omega) i1 (by omega)
