set_option maxHeartbeats 2000000 in
theorem sFX3_readGrade_133 (n : Nat) (hn : n = 2200000000) (v_tape_length : Int32) (a_tape_bytes : Nat → Int32) (v_fault : Int32) (v_faultPlace : Int32) (v_tape_next : Int32) (v_tape_type : Int32) (v_tape_place : Int32) (v_tape_formerPlace : Int32) (v_tape_word : Int64) (v_tape_number : Int32) (a_draft_grades : Nat → Int32) (a_draft_gradeKinds : Nat → Int32) (a_draft_gradePurities : Nat → Int32) (a_draft_gradePrices : Nat → Int32) (x1 : Int32) (x2 : Int32) (x3 : Int32) (i0 : 0 ≤ (v_tape_length).toInt) (i1 : (v_tape_length).toInt ≤ 1200) (i2 : 0 ≤ (v_tape_next).toInt) (i3 : (v_tape_next).toInt ≤ (v_tape_length).toInt) (i4 : (v_tape_type).toInt = 8 → (0 ≤ (v_tape_number).toInt ∧ (v_tape_number).toInt ≤ 99999)) (i5 : ∀ i : Nat, (i < 4) → (0 ≤ (a_draft_grades i).toInt ∧ (a_draft_grades i).toInt ≤ 4)) (i6 : ∀ i : Nat, (i < 4) → (0 ≤ (a_draft_gradeKinds i).toInt ∧ (a_draft_gradeKinds i).toInt ≤ 4)) (i7 : 0 ≤ (x1).toInt) (i8 : (x1).toInt ≤ 3) (i9 : 0 ≤ (x2).toInt) (i10 : (x2).toInt ≤ 4) : OK (FX3_readGrade_133 n v_tape_length a_tape_bytes v_fault v_faultPlace v_tape_next v_tape_type v_tape_place v_tape_formerPlace v_tape_word v_tape_number a_draft_grades a_draft_gradeKinds a_draft_gradePurities a_draft_gradePrices x1 x2 x3) (fun u => (0 ≤ (u.2.2.2.1).toInt) ∧ ((u.2.2.2.1).toInt ≤ (v_tape_length).toInt) ∧ ((u.2.2.2.2.1).toInt = 8 → (0 ≤ (u.2.2.2.2.2.2.2.2.1).toInt ∧ (u.2.2.2.2.2.2.2.2.1).toInt ≤ 99999)) ∧ (∀ i : Nat, (i < 4) → (0 ≤ (u.2.2.2.2.2.2.2.2.2.1 i).toInt ∧ (u.2.2.2.2.2.2.2.2.2.1 i).toInt ≤ 4)) ∧ (∀ i : Nat, (i < 4) → (0 ≤ (u.2.2.2.2.2.2.2.2.2.2.1 i).toInt ∧ (u.2.2.2.2.2.2.2.2.2.2.1 i).toInt ≤ 4))) := by
  unfold FX3_readGrade_133
  have v1163 : HQ ((9999 : Int32)).toInt 9999 := HQ.mk (by decide)
  refine OK_bd (sX3_takeNumber n hn v_fault v_faultPlace v_tape_length v_tape_next v_tape_type v_tape_place v_tape_formerPlace v_tape_word v_tape_number a_tape_bytes (9999 : Int32) ((v_fault).toInt) (by omega) (by (rw [v1163.out]) <;> omega) i0 i1 i2 i3 i4) (fun u_28 p_u_28 => ?_)
  obtain ⟨p1164, p1165, p1166, p1167, p1168, p1169⟩ := p_u_28
  try simp only [v1163.out] at p1169
  refine OK_bd (sX3_take n hn u_28.2.1 u_28.2.2.1 v_tape_length u_28.2.2.2.1 u_28.2.2.2.2.1 u_28.2.2.2.2.2.1 u_28.2.2.2.2.2.2.1 u_28.2.2.2.2.2.2.2.1 u_28.2.2.2.2.2.2.2.2 a_tape_bytes (9 : Int32) ((u_28.2.1).toInt) (by omega) i0 i1 p1165 p1166 p1167) (fun u_30 p_u_30 => ?_)
  obtain ⟨p1170, p1171, p1172, p1173⟩ := p_u_30
  refine OK_if (fun c1174 => ?_) (fun c1174 => ?_)
  · have v1175 : HQ ((0 : Int32)).toInt 0 := HQ.mk (by decide)
    have f1176 := eq32k rfl v1175.out c1174
    refine OK_bd (sX2_addGrade n hn a_draft_grades a_draft_gradeKinds a_draft_gradePurities a_draft_gradePrices x1 x2 x3 u_28.1 i7 i8 i9 i10 i5 i6) (fun u_33 p_u_33 => ?_)
    obtain ⟨p1177, p1178⟩ := p_u_33
    exact OK_some (show (0 ≤ (u_30.2.2.2.1).toInt) ∧ ((u_30.2.2.2.1).toInt ≤ (v_tape_length).toInt) ∧ ((u_30.2.2.2.2.1).toInt = 8 → (0 ≤ (u_30.2.2.2.2.2.2.2.2).toInt ∧ (u_30.2.2.2.2.2.2.2.2).toInt ≤ 99999)) ∧ (∀ i : Nat, (i < 4) → (0 ≤ (u_33.2.1 i).toInt ∧ (u_33.2.1 i).toInt ≤ 4)) ∧ (∀ i : Nat, (i < 4) → (0 ≤ (u_33.2.2.1 i).toInt ∧ (u_33.2.2.1 i).toInt ≤ 4)) from ⟨p1171, p1172, p1173, p1177, p1178⟩)
  · have v1179 : HQ ((0 : Int32)).toInt 0 := HQ.mk (by decide)
    have f1180 := neq32k rfl v1179.out c1174
    exact OK_some (show (0 ≤ (u_30.2.2.2.1).toInt) ∧ ((u_30.2.2.2.1).toInt ≤ (v_tape_length).toInt) ∧ ((u_30.2.2.2.2.1).toInt = 8 → (0 ≤ (u_30.2.2.2.2.2.2.2.2).toInt ∧ (u_30.2.2.2.2.2.2.2.2).toInt ≤ 99999)) ∧ (∀ i : Nat, (i < 4) → (0 ≤ (a_draft_grades i).toInt ∧ (a_draft_grades i).toInt ≤ 4)) ∧ (∀ i : Nat, (i < 4) → (0 ≤ (a_draft_gradeKinds i).toInt ∧ (a_draft_gradeKinds i).toInt ≤ 4)) from ⟨p1171, p1172, p1173, i5, i6⟩)
set_option maxHeartbeats 2000000 in
theorem sFX3_readGrade_95 (n : Nat) (hn : n = 2200000000) (v_tape_length : Int32) (a_tape_bytes : Nat → Int32) (v_fault : Int32) (v_faultPlace : Int32) (v_tape_next : Int32) (v_tape_type : Int32) (v_tape_place : Int32) (v_tape_formerPlace : Int32) (v_tape_word : Int64) (v_tape_number : Int32) (a_draft_grades : Nat → Int32) (a_draft_gradeKinds : Nat → Int32) (a_draft_gradePurities : Nat → Int32) (a_draft_gradePrices : Nat → Int32) (x1 : Int32) (x2 : Int32) (i0 : 0 ≤ (v_tape_length).toInt) (i1 : (v_tape_length).toInt ≤ 1200) (i2 : 0 ≤ (v_tape_next).toInt) (i3 : (v_tape_next).toInt ≤ (v_tape_length).toInt) (i4 : (v_tape_type).toInt = 8 → (0 ≤ (v_tape_number).toInt ∧ (v_tape_number).toInt ≤ 99999)) (i5 : ∀ i : Nat, (i < 4) → (0 ≤ (a_draft_grades i).toInt ∧ (a_draft_grades i).toInt ≤ 4)) (i6 : ∀ i : Nat, (i < 4) → (0 ≤ (a_draft_gradeKinds i).toInt ∧ (a_draft_gradeKinds i).toInt ≤ 4)) (i7 : 0 ≤ (x1).toInt) (i8 : (x1).toInt ≤ 3) (i9 : 0 ≤ (x2).toInt) (i10 : (x2).toInt ≤ 4) : OK (FX3_readGrade_95 n v_tape_length a_tape_bytes v_fault v_faultPlace v_tape_next v_tape_type v_tape_place v_tape_formerPlace v_tape_word v_tape_number a_draft_grades a_draft_gradeKinds a_draft_gradePurities a_draft_gradePrices x1 x2) (fun u => (0 ≤ (u.2.2.2.1).toInt) ∧ ((u.2.2.2.1).toInt ≤ (v_tape_length).toInt) ∧ ((u.2.2.2.2.1).toInt = 8 → (0 ≤ (u.2.2.2.2.2.2.2.2.1).toInt ∧ (u.2.2.2.2.2.2.2.2.1).toInt ≤ 99999)) ∧ (∀ i : Nat, (i < 4) → (0 ≤ (u.2.2.2.2.2.2.2.2.2.1 i).toInt ∧ (u.2.2.2.2.2.2.2.2.2.1 i).toInt ≤ 4)) ∧ (∀ i : Nat, (i < 4) → (0 ≤ (u.2.2.2.2.2.2.2.2.2.2.1 i).toInt ∧ (u.2.2.2.2.2.2.2.2.2.2.1 i).toInt ≤ 4))) := by
  unfold FX3_readGrade_95
  have v1181 : HQ ((100 : Int32)).toInt 100 := HQ.mk (by decide)
  refine OK_bd (sX3_takeNumber n hn v_fault v_faultPlace v_tape_length v_tape_next v_tape_type v_tape_place v_tape_formerPlace v_tape_word v_tape_number a_tape_bytes (100 : Int32) ((v_fault).toInt) (by omega) (by (rw [v1181.out]) <;> omega) i0 i1 i2 i3 i4) (fun u_20 p_u_20 => ?_)
  obtain ⟨p1182, p1183, p1184, p1185, p1186, p1187⟩ := p_u_20
  try simp only [v1181.out] at p1187
  refine OK_if (fun c1188 => ?_) (fun c1188 => ?_)
  · have v1189 : HQ ((0 : Int32)).toInt 0 := HQ.mk (by decide)
    have f1190 := eq32k rfl v1189.out c1188
    refine OK_bd (sX2_hasGrade n hn a_draft_grades a_draft_gradePurities x1 u_20.1 i7 i8 i5) (fun u_23 p_u_23 => ?_)
    refine OK_if (fun c1191 => ?_) (fun c1191 => ?_)
    · have f1192 := eq32k rfl v1189.out c1191
      exact sFX3_readGrade_133 n hn v_tape_length a_tape_bytes u_20.2.1 u_20.2.2.1 u_20.2.2.2.1 u_20.2.2.2.2.1 u_20.2.2.2.2.2.1 u_20.2.2.2.2.2.2.1 u_20.2.2.2.2.2.2.2.1 u_20.2.2.2.2.2.2.2.2 a_draft_grades a_draft_gradeKinds a_draft_gradePurities a_draft_gradePrices x1 x2 u_20.1 i0 i1 p1183 p1184 p1185 i5 i6 i7 i8 i9 i10
    · have f1193 := neq32k rfl v1189.out c1191
      have v1194 : HQ ((5 : Int32)).toInt 5 := HQ.mk (by decide)
      refine OK_bd (sX3_fail n hn u_20.2.1 u_20.2.2.1 (5 : Int32) u_20.2.2.2.2.2.2.1 (by (rw [v1194.out]) <;> omega)) (fun u_26 p_u_26 => ?_)
      have p1195 := p_u_26
      clear p_u_26
      exact sFX3_readGrade_133 n hn v_tape_length a_tape_bytes u_26.2.1 u_26.2.2 u_20.2.2.2.1 u_20.2.2.2.2.1 u_20.2.2.2.2.2.1 u_20.2.2.2.2.2.2.1 u_20.2.2.2.2.2.2.2.1 u_20.2.2.2.2.2.2.2.2 a_draft_grades a_draft_gradeKinds a_draft_gradePurities a_draft_gradePrices x1 x2 u_20.1 i0 i1 p1183 p1184 p1185 i5 i6 i7 i8 i9 i10
  · have v1196 : HQ ((0 : Int32)).toInt 0 := HQ.mk (by decide)
    have f1197 := neq32k rfl v1196.out c1188
    exact sFX3_readGrade_133 n hn v_tape_length a_tape_bytes u_20.2.1 u_20.2.2.1 u_20.2.2.2.1 u_20.2.2.2.2.1 u_20.2.2.2.2.2.1 u_20.2.2.2.2.2.2.1 u_20.2.2.2.2.2.2.2.1 u_20.2.2.2.2.2.2.2.2 a_draft_grades a_draft_gradeKinds a_draft_gradePurities a_draft_gradePrices x1 x2 u_20.1 i0 i1 p1183 p1184 p1185 i5 i6 i7 i8 i9 i10
set_option maxHeartbeats 2000000 in
theorem sFX3_readGrade_45 (n : Nat) (hn : n = 2200000000) (v_tape_length : Int32) (a_tape_bytes : Nat → Int32) (v_fault : Int32) (v_faultPlace : Int32) (v_tape_next : Int32) (v_tape_type : Int32) (v_tape_place : Int32) (v_tape_formerPlace : Int32) (v_tape_word : Int64) (v_tape_number : Int32) (a_draft_grades : Nat → Int32) (a_draft_gradeKinds : Nat → Int32) (a_draft_gradePurities : Nat → Int32) (a_draft_gradePrices : Nat → Int32) (x1 : Int32) (i0 : 0 ≤ (v_tape_length).toInt) (i1 : (v_tape_length).toInt ≤ 1200) (i2 : 0 ≤ (v_tape_next).toInt) (i3 : (v_tape_next).toInt ≤ (v_tape_length).toInt) (i4 : (v_tape_type).toInt = 8 → (0 ≤ (v_tape_number).toInt ∧ (v_tape_number).toInt ≤ 99999)) (i5 : ∀ i : Nat, (i < 4) → (0 ≤ (a_draft_grades i).toInt ∧ (a_draft_grades i).toInt ≤ 4)) (i6 : ∀ i : Nat, (i < 4) → (0 ≤ (a_draft_gradeKinds i).toInt ∧ (a_draft_gradeKinds i).toInt ≤ 4)) (i7 : 0 ≤ (x1).toInt) (i8 : (x1).toInt ≤ 3) : OK (FX3_readGrade_45 n v_tape_length a_tape_bytes v_fault v_faultPlace v_tape_next v_tape_type v_tape_place v_tape_formerPlace v_tape_word v_tape_number a_draft_grades a_draft_gradeKinds a_draft_gradePurities a_draft_gradePrices x1) (fun u => (0 ≤ (u.2.2.2.1).toInt) ∧ ((u.2.2.2.1).toInt ≤ (v_tape_length).toInt) ∧ ((u.2.2.2.2.1).toInt = 8 → (0 ≤ (u.2.2.2.2.2.2.2.2.1).toInt ∧ (u.2.2.2.2.2.2.2.2.1).toInt ≤ 99999)) ∧ (∀ i : Nat, (i < 4) → (0 ≤ (u.2.2.2.2.2.2.2.2.2.1 i).toInt ∧ (u.2.2.2.2.2.2.2.2.2.1 i).toInt ≤ 4)) ∧ (∀ i : Nat, (i < 4) → (0 ≤ (u.2.2.2.2.2.2.2.2.2.2.1 i).toInt ∧ (u.2.2.2.2.2.2.2.2.2.2.1 i).toInt ≤ 4))) := by
  unfold FX3_readGrade_45
  have v1198 : HQ ((4 : Int32)).toInt 4 := HQ.mk (by decide)
  refine OK_bd (sX3_takeNumber n hn v_fault v_faultPlace v_tape_length v_tape_next v_tape_type v_tape_place v_tape_formerPlace v_tape_word v_tape_number a_tape_bytes (4 : Int32) ((v_fault).toInt) (by omega) (by (rw [v1198.out]) <;> omega) i0 i1 i2 i3 i4) (fun u_11 p_u_11 => ?_)
  obtain ⟨p1199, p1200, p1201, p1202, p1203, p1204⟩ := p_u_11
  try simp only [v1198.out] at p1204
  refine OK_if (fun c1205 => ?_) (fun c1205 => ?_)
  · have v1206 : HQ ((0 : Int32)).toInt 0 := HQ.mk (by decide)
    have f1207 := eq32k rfl v1206.out c1205
    refine OK_ck (ckV rfl (by omega) (by omega)) ?_
    refine OK_if (fun c1208 => ?_) (fun c1208 => ?_)
    · obtain ⟨m1209, v1210, f1211⟩ := tnV (e := x1) rfl (by omega)
      have v1212 : HQ ((a_draft_grades ((x1).toNatClampNeg))).toInt (a_draft_grades m1209).toInt := HQ.mk (by rw [v1210.out])
      have f1213 := i5 m1209
      have f1214 := le32k v1212.out v1206.out c1208
      exact sFX3_readGrade_95 n hn v_tape_length a_tape_bytes u_11.2.1 u_11.2.2.1 u_11.2.2.2.1 u_11.2.2.2.2.1 u_11.2.2.2.2.2.1 u_11.2.2.2.2.2.2.1 u_11.2.2.2.2.2.2.2.1 u_11.2.2.2.2.2.2.2.2 a_draft_grades a_draft_gradeKinds a_draft_gradePurities a_draft_gradePrices x1 u_11.1 i0 i1 p1200 p1201 p1202 i5 i6 i7 i8 p1203 (by omega)
    · obtain ⟨m1215, v1216, f1217⟩ := tnV (e := x1) rfl (by omega)
      have v1218 : HQ ((a_draft_grades ((x1).toNatClampNeg))).toInt (a_draft_grades m1215).toInt := HQ.mk (by rw [v1216.out])
      have f1219 := i5 m1215
      have f1220 := nle32k v1218.out v1206.out c1208
      refine OK_ck (ckV rfl (by omega) (by omega)) ?_
      refine OK_if (fun c1221 => ?_) (fun c1221 => ?_)
      · have v1222 : HQ ((a_draft_gradeKinds ((x1).toNatClampNeg))).toInt (a_draft_gradeKinds m1215).toInt := HQ.mk (by rw [v1216.out])
        have f1223 := i6 m1215
        have f1224 := eq32k v1222.out rfl c1221
        exact sFX3_readGrade_95 n hn v_tape_length a_tape_bytes u_11.2.1 u_11.2.2.1 u_11.2.2.2.1 u_11.2.2.2.2.1 u_11.2.2.2.2.2.1 u_11.2.2.2.2.2.2.1 u_11.2.2.2.2.2.2.2.1 u_11.2.2.2.2.2.2.2.2 a_draft_grades a_draft_gradeKinds a_draft_gradePurities a_draft_gradePrices x1 u_11.1 i0 i1 p1200 p1201 p1202 i5 i6 i7 i8 p1203 (by omega)
      · have v1225 : HQ ((a_draft_gradeKinds ((x1).toNatClampNeg))).toInt (a_draft_gradeKinds m1215).toInt := HQ.mk (by rw [v1216.out])
        have f1226 := i6 m1215
        have f1227 := neq32k v1225.out rfl c1221
        have v1228 : HQ ((5 : Int32)).toInt 5 := HQ.mk (by decide)
        refine OK_bd (sX3_fail n hn u_11.2.1 u_11.2.2.1 (5 : Int32) u_11.2.2.2.2.2.2.1 (by (rw [v1228.out]) <;> omega)) (fun u_18 p_u_18 => ?_)
        have p1229 := p_u_18
        clear p_u_18
        exact sFX3_readGrade_95 n hn v_tape_length a_tape_bytes u_18.2.1 u_18.2.2 u_11.2.2.2.1 u_11.2.2.2.2.1 u_11.2.2.2.2.2.1 u_11.2.2.2.2.2.2.1 u_11.2.2.2.2.2.2.2.1 u_11.2.2.2.2.2.2.2.2 a_draft_grades a_draft_gradeKinds a_draft_gradePurities a_draft_gradePrices x1 u_11.1 i0 i1 p1200 p1201 p1202 i5 i6 i7 i8 p1203 (by omega)
  · have v1230 : HQ ((0 : Int32)).toInt 0 := HQ.mk (by decide)
    have f1231 := neq32k rfl v1230.out c1205
    exact sFX3_readGrade_95 n hn v_tape_length a_tape_bytes u_11.2.1 u_11.2.2.1 u_11.2.2.2.1 u_11.2.2.2.2.1 u_11.2.2.2.2.2.1 u_11.2.2.2.2.2.2.1 u_11.2.2.2.2.2.2.2.1 u_11.2.2.2.2.2.2.2.2 a_draft_grades a_draft_gradeKinds a_draft_gradePurities a_draft_gradePrices x1 u_11.1 i0 i1 p1200 p1201 p1202 i5 i6 i7 i8 p1203 (by omega)
set_option maxHeartbeats 2000000 in
theorem sX3_readGrade (n : Nat) (hn : n = 2200000000) (v_fault : Int32) (v_faultPlace : Int32) (v_tape_length : Int32) (v_tape_next : Int32) (v_tape_type : Int32) (v_tape_place : Int32) (v_tape_formerPlace : Int32) (v_tape_word : Int64) (v_tape_number : Int32) (a_tape_bytes : Nat → Int32) (a_draft_grades : Nat → Int32) (a_draft_gradeKinds : Nat → Int32) (a_draft_gradePurities : Nat → Int32) (a_draft_gradePrices : Nat → Int32) (i0 : 0 ≤ (v_tape_length).toInt) (i1 : (v_tape_length).toInt ≤ 1200) (i2 : 0 ≤ (v_tape_next).toInt) (i3 : (v_tape_next).toInt ≤ (v_tape_length).toInt) (i4 : (v_tape_type).toInt = 8 → (0 ≤ (v_tape_number).toInt ∧ (v_tape_number).toInt ≤ 99999)) (i5 : ∀ i : Nat, (i < 4) → (0 ≤ (a_draft_grades i).toInt ∧ (a_draft_grades i).toInt ≤ 4)) (i6 : ∀ i : Nat, (i < 4) → (0 ≤ (a_draft_gradeKinds i).toInt ∧ (a_draft_gradeKinds i).toInt ≤ 4)) : OK (FX3_readGrade n v_fault v_faultPlace v_tape_length v_tape_next v_tape_type v_tape_place v_tape_formerPlace v_tape_word v_tape_number a_tape_bytes a_draft_grades a_draft_gradeKinds a_draft_gradePurities a_draft_gradePrices) (fun u => (0 ≤ (u.2.2.2.1).toInt) ∧ ((u.2.2.2.1).toInt ≤ (v_tape_length).toInt) ∧ ((u.2.2.2.2.1).toInt = 8 → (0 ≤ (u.2.2.2.2.2.2.2.2.1).toInt ∧ (u.2.2.2.2.2.2.2.2.1).toInt ≤ 99999)) ∧ (∀ i : Nat, (i < 4) → (0 ≤ (u.2.2.2.2.2.2.2.2.2.1 i).toInt ∧ (u.2.2.2.2.2.2.2.2.2.1 i).toInt ≤ 4)) ∧ (∀ i : Nat, (i < 4) → (0 ≤ (u.2.2.2.2.2.2.2.2.2.2.1 i).toInt ∧ (u.2.2.2.2.2.2.2.2.2.2.1 i).toInt ≤ 4))) := by
  unfold FX3_readGrade
  refine OK_bd (sX4_advance n hn v_tape_length v_tape_next v_tape_type v_tape_place v_tape_formerPlace v_tape_word v_tape_number a_tape_bytes i0 i1 i2 i3) (fun u_2 p_u_2 => ?_)
  obtain ⟨p1232, p1233, p1234⟩ := p_u_2
  have v1235 : HQ ((3 : Int32)).toInt 3 := HQ.mk (by decide)
  refine OK_bd (sX3_takeNumber n hn v_fault v_faultPlace v_tape_length u_2.2.1 u_2.2.2.1 u_2.2.2.2.1 u_2.2.2.2.2.1 u_2.2.2.2.2.2.1 u_2.2.2.2.2.2.2 a_tape_bytes (3 : Int32) ((v_fault).toInt) (by omega) (by (rw [v1235.out]) <;> omega) i0 i1 p1232 p1233 p1234) (fun u_4 p_u_4 => ?_)
  obtain ⟨p1236, p1237, p1238, p1239, p1240, p1241⟩ := p_u_4
  try simp only [v1235.out] at p1241
  refine OK_if (fun c1242 => ?_) (fun c1242 => ?_)
  · have v1243 : HQ ((0 : Int32)).toInt 0 := HQ.mk (by decide)
    have f1244 := eq32k rfl v1243.out c1242
    refine OK_ck (ckV rfl (by omega) (by omega)) ?_
    refine OK_if (fun c1245 => ?_) (fun c1245 => ?_)
    · obtain ⟨m1246, v1247, f1248⟩ := tnV (e := u_4.1) rfl (by omega)
      have v1249 : HQ ((a_draft_grades ((u_4.1).toNatClampNeg))).toInt (a_draft_grades m1246).toInt := HQ.mk (by rw [v1247.out])
      have f1250 := i5 m1246
      have v1251 : HQ ((4 : Int32)).toInt 4 := HQ.mk (by decide)
      have f1252 := lt32k v1249.out v1251.out c1245
      exact sFX3_readGrade_45 n hn v_tape_length a_tape_bytes u_4.2.1 u_4.2.2.1 u_4.2.2.2.1 u_4.2.2.2.2.1 u_4.2.2.2.2.2.1 u_4.2.2.2.2.2.2.1 u_4.2.2.2.2.2.2.2.1 u_4.2.2.2.2.2.2.2.2 a_draft_grades a_draft_gradeKinds a_draft_gradePurities a_draft_gradePrices u_4.1 i0 i1 p1237 p1238 p1239 i5 i6 p1240 (by omega)
    · obtain ⟨m1253, v1254, f1255⟩ := tnV (e := u_4.1) rfl (by omega)
      have v1256 : HQ ((a_draft_grades ((u_4.1).toNatClampNeg))).toInt (a_draft_grades m1253).toInt := HQ.mk (by rw [v1254.out])
      have f1257 := i5 m1253
      have v1258 : HQ ((4 : Int32)).toInt 4 := HQ.mk (by decide)
      have f1259 := nlt32k v1256.out v1258.out c1245
      have v1260 : HQ ((2 : Int32)).toInt 2 := HQ.mk (by decide)
      refine OK_bd (sX3_fail n hn u_4.2.1 u_4.2.2.1 (2 : Int32) u_4.2.2.2.2.2.2.1 (by (rw [v1260.out]) <;> omega)) (fun u_9 p_u_9 => ?_)
      have p1261 := p_u_9
      clear p_u_9
      exact sFX3_readGrade_45 n hn v_tape_length a_tape_bytes u_9.2.1 u_9.2.2 u_4.2.2.2.1 u_4.2.2.2.2.1 u_4.2.2.2.2.2.1 u_4.2.2.2.2.2.2.1 u_4.2.2.2.2.2.2.2.1 u_4.2.2.2.2.2.2.2.2 a_draft_grades a_draft_gradeKinds a_draft_gradePurities a_draft_gradePrices u_4.1 i0 i1 p1237 p1238 p1239 i5 i6 p1240 (by omega)
  · have v1262 : HQ ((0 : Int32)).toInt 0 := HQ.mk (by decide)
    have f1263 := neq32k rfl v1262.out c1242
    exact sFX3_readGrade_45 n hn v_tape_length a_tape_bytes u_4.2.1 u_4.2.2.1 u_4.2.2.2.1 u_4.2.2.2.2.1 u_4.2.2.2.2.2.1 u_4.2.2.2.2.2.2.1 u_4.2.2.2.2.2.2.2.1 u_4.2.2.2.2.2.2.2.2 a_draft_grades a_draft_gradeKinds a_draft_gradePurities a_draft_gradePrices u_4.1 i0 i1 p1237 p1238 p1239 i5 i6 p1240 (by omega)
