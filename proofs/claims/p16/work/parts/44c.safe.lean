set_option maxHeartbeats 2000000 in
theorem sFX3_readGrade_133 (n : Nat) (hn : n = 3000) (v_tape_length : Int32) (a_tape_bytes : Nat → Int32) (v_fault : Int32) (v_faultPlace : Int32) (v_tape_next : Int32) (v_tape_type : Int32) (v_tape_place : Int32) (v_tape_formerPlace : Int32) (v_tape_word : Int64) (v_tape_number : Int32) (a_draft_grades : Nat → Int32) (a_draft_gradeKinds : Nat → Int32) (a_draft_gradePurities : Nat → Int32) (a_draft_gradePrices : Nat → Int32) (x1 : Int32) (x2 : Int32) (x3 : Int32) (i0 : 0 ≤ (v_tape_length).toInt) (i1 : (v_tape_length).toInt ≤ 1200) (i2 : 0 ≤ (v_tape_next).toInt) (i3 : (v_tape_next).toInt ≤ (v_tape_length).toInt) (i4 : (v_tape_type).toInt = 8 → (0 ≤ (v_tape_number).toInt ∧ (v_tape_number).toInt ≤ 99999)) (i5 : ∀ i : Nat, (i < 4) → (0 ≤ (a_draft_grades i).toInt ∧ (a_draft_grades i).toInt ≤ 4)) (i6 : ∀ i : Nat, (i < 4) → (0 ≤ (a_draft_gradeKinds i).toInt ∧ (a_draft_gradeKinds i).toInt ≤ 4)) (i7 : 0 ≤ (x1).toInt) (i8 : (x1).toInt ≤ 3) (i9 : 0 ≤ (x2).toInt) (i10 : (x2).toInt ≤ 4) : OK (FX3_readGrade_133 n v_tape_length a_tape_bytes v_fault v_faultPlace v_tape_next v_tape_type v_tape_place v_tape_formerPlace v_tape_word v_tape_number a_draft_grades a_draft_gradeKinds a_draft_gradePurities a_draft_gradePrices x1 x2 x3) (fun u => (0 ≤ (u.2.2.2.1).toInt) ∧ ((u.2.2.2.1).toInt ≤ (v_tape_length).toInt) ∧ ((u.2.2.2.2.1).toInt = 8 → (0 ≤ (u.2.2.2.2.2.2.2.2.1).toInt ∧ (u.2.2.2.2.2.2.2.2.1).toInt ≤ 99999)) ∧ (∀ i : Nat, (i < 4) → (0 ≤ (u.2.2.2.2.2.2.2.2.2.1 i).toInt ∧ (u.2.2.2.2.2.2.2.2.2.1 i).toInt ≤ 4)) ∧ (∀ i : Nat, (i < 4) → (0 ≤ (u.2.2.2.2.2.2.2.2.2.2.1 i).toInt ∧ (u.2.2.2.2.2.2.2.2.2.2.1 i).toInt ≤ 4))) := by
  unfold FX3_readGrade_133
  have v1111 : HQ ((9999 : Int32)).toInt 9999 := HQ.mk (by decide)
  refine OK_bd (sX3_takeNumber n hn v_fault v_faultPlace v_tape_length v_tape_next v_tape_type v_tape_place v_tape_formerPlace v_tape_word v_tape_number a_tape_bytes (9999 : Int32) ((v_fault).toInt) (by omega) (by rw [v1111.out]; omega) i0 i1 i2 i3 i4) (fun u_28 p_u_28 => ?_)
  obtain ⟨p1112, p1113, p1114, p1115, p1116, p1117⟩ := p_u_28
  refine OK_bd (sX3_take n hn u_28.2.1 u_28.2.2.1 v_tape_length u_28.2.2.2.1 u_28.2.2.2.2.1 u_28.2.2.2.2.2.1 u_28.2.2.2.2.2.2.1 u_28.2.2.2.2.2.2.2.1 u_28.2.2.2.2.2.2.2.2 a_tape_bytes (9 : Int32) ((u_28.2.1).toInt) (by omega) i0 i1 p1113 p1114 p1115) (fun u_30 p_u_30 => ?_)
  obtain ⟨p1118, p1119, p1120, p1121⟩ := p_u_30
  refine OK_if (fun c1122 => ?_) (fun c1122 => ?_)
  · have v1123 : HQ ((0 : Int32)).toInt 0 := HQ.mk (by decide)
    have f1124 := eq32k rfl v1123.out c1122
    refine OK_bd (sX2_addGrade n hn a_draft_grades a_draft_gradeKinds a_draft_gradePurities a_draft_gradePrices x1 x2 x3 u_28.1 i7 i8 i9 i10 i5 i6) (fun u_33 p_u_33 => ?_)
    obtain ⟨p1125, p1126⟩ := p_u_33
    exact OK_some (show (0 ≤ (u_30.2.2.2.1).toInt) ∧ ((u_30.2.2.2.1).toInt ≤ (v_tape_length).toInt) ∧ ((u_30.2.2.2.2.1).toInt = 8 → (0 ≤ (u_30.2.2.2.2.2.2.2.2).toInt ∧ (u_30.2.2.2.2.2.2.2.2).toInt ≤ 99999)) ∧ (∀ i : Nat, (i < 4) → (0 ≤ (u_33.2.1 i).toInt ∧ (u_33.2.1 i).toInt ≤ 4)) ∧ (∀ i : Nat, (i < 4) → (0 ≤ (u_33.2.2.1 i).toInt ∧ (u_33.2.2.1 i).toInt ≤ 4)) from ⟨p1119, p1120, p1121, p1125, p1126⟩)
  · have v1127 : HQ ((0 : Int32)).toInt 0 := HQ.mk (by decide)
    have f1128 := neq32k rfl v1127.out c1122
    exact OK_some (show (0 ≤ (u_30.2.2.2.1).toInt) ∧ ((u_30.2.2.2.1).toInt ≤ (v_tape_length).toInt) ∧ ((u_30.2.2.2.2.1).toInt = 8 → (0 ≤ (u_30.2.2.2.2.2.2.2.2).toInt ∧ (u_30.2.2.2.2.2.2.2.2).toInt ≤ 99999)) ∧ (∀ i : Nat, (i < 4) → (0 ≤ (a_draft_grades i).toInt ∧ (a_draft_grades i).toInt ≤ 4)) ∧ (∀ i : Nat, (i < 4) → (0 ≤ (a_draft_gradeKinds i).toInt ∧ (a_draft_gradeKinds i).toInt ≤ 4)) from ⟨p1119, p1120, p1121, i5, i6⟩)
set_option maxHeartbeats 2000000 in
theorem sFX3_readGrade_95 (n : Nat) (hn : n = 3000) (v_tape_length : Int32) (a_tape_bytes : Nat → Int32) (v_fault : Int32) (v_faultPlace : Int32) (v_tape_next : Int32) (v_tape_type : Int32) (v_tape_place : Int32) (v_tape_formerPlace : Int32) (v_tape_word : Int64) (v_tape_number : Int32) (a_draft_grades : Nat → Int32) (a_draft_gradeKinds : Nat → Int32) (a_draft_gradePurities : Nat → Int32) (a_draft_gradePrices : Nat → Int32) (x1 : Int32) (x2 : Int32) (i0 : 0 ≤ (v_tape_length).toInt) (i1 : (v_tape_length).toInt ≤ 1200) (i2 : 0 ≤ (v_tape_next).toInt) (i3 : (v_tape_next).toInt ≤ (v_tape_length).toInt) (i4 : (v_tape_type).toInt = 8 → (0 ≤ (v_tape_number).toInt ∧ (v_tape_number).toInt ≤ 99999)) (i5 : ∀ i : Nat, (i < 4) → (0 ≤ (a_draft_grades i).toInt ∧ (a_draft_grades i).toInt ≤ 4)) (i6 : ∀ i : Nat, (i < 4) → (0 ≤ (a_draft_gradeKinds i).toInt ∧ (a_draft_gradeKinds i).toInt ≤ 4)) (i7 : 0 ≤ (x1).toInt) (i8 : (x1).toInt ≤ 3) (i9 : 0 ≤ (x2).toInt) (i10 : (x2).toInt ≤ 4) : OK (FX3_readGrade_95 n v_tape_length a_tape_bytes v_fault v_faultPlace v_tape_next v_tape_type v_tape_place v_tape_formerPlace v_tape_word v_tape_number a_draft_grades a_draft_gradeKinds a_draft_gradePurities a_draft_gradePrices x1 x2) (fun u => (0 ≤ (u.2.2.2.1).toInt) ∧ ((u.2.2.2.1).toInt ≤ (v_tape_length).toInt) ∧ ((u.2.2.2.2.1).toInt = 8 → (0 ≤ (u.2.2.2.2.2.2.2.2.1).toInt ∧ (u.2.2.2.2.2.2.2.2.1).toInt ≤ 99999)) ∧ (∀ i : Nat, (i < 4) → (0 ≤ (u.2.2.2.2.2.2.2.2.2.1 i).toInt ∧ (u.2.2.2.2.2.2.2.2.2.1 i).toInt ≤ 4)) ∧ (∀ i : Nat, (i < 4) → (0 ≤ (u.2.2.2.2.2.2.2.2.2.2.1 i).toInt ∧ (u.2.2.2.2.2.2.2.2.2.2.1 i).toInt ≤ 4))) := by
  unfold FX3_readGrade_95
  have v1129 : HQ ((100 : Int32)).toInt 100 := HQ.mk (by decide)
  refine OK_bd (sX3_takeNumber n hn v_fault v_faultPlace v_tape_length v_tape_next v_tape_type v_tape_place v_tape_formerPlace v_tape_word v_tape_number a_tape_bytes (100 : Int32) ((v_fault).toInt) (by omega) (by rw [v1129.out]; omega) i0 i1 i2 i3 i4) (fun u_20 p_u_20 => ?_)
  obtain ⟨p1130, p1131, p1132, p1133, p1134, p1135⟩ := p_u_20
  refine OK_if (fun c1136 => ?_) (fun c1136 => ?_)
  · have v1137 : HQ ((0 : Int32)).toInt 0 := HQ.mk (by decide)
    have f1138 := eq32k rfl v1137.out c1136
    refine OK_bd (sX2_hasGrade n hn a_draft_grades a_draft_gradePurities x1 u_20.1 i7 i8 i5) (fun u_23 p_u_23 => ?_)
    refine OK_if (fun c1139 => ?_) (fun c1139 => ?_)
    · have f1140 := eq32k rfl v1137.out c1139
      exact sFX3_readGrade_133 n hn v_tape_length a_tape_bytes u_20.2.1 u_20.2.2.1 u_20.2.2.2.1 u_20.2.2.2.2.1 u_20.2.2.2.2.2.1 u_20.2.2.2.2.2.2.1 u_20.2.2.2.2.2.2.2.1 u_20.2.2.2.2.2.2.2.2 a_draft_grades a_draft_gradeKinds a_draft_gradePurities a_draft_gradePrices x1 x2 u_20.1 i0 i1 p1131 p1132 p1133 i5 i6 i7 i8 i9 i10
    · have f1141 := neq32k rfl v1137.out c1139
      have v1142 : HQ ((5 : Int32)).toInt 5 := HQ.mk (by decide)
      refine OK_bd (sX3_fail n hn u_20.2.1 u_20.2.2.1 (5 : Int32) u_20.2.2.2.2.2.2.1 (by rw [v1142.out]; omega)) (fun u_26 p_u_26 => ?_)
      have p1143 := p_u_26
      exact sFX3_readGrade_133 n hn v_tape_length a_tape_bytes u_26.2.1 u_26.2.2 u_20.2.2.2.1 u_20.2.2.2.2.1 u_20.2.2.2.2.2.1 u_20.2.2.2.2.2.2.1 u_20.2.2.2.2.2.2.2.1 u_20.2.2.2.2.2.2.2.2 a_draft_grades a_draft_gradeKinds a_draft_gradePurities a_draft_gradePrices x1 x2 u_20.1 i0 i1 p1131 p1132 p1133 i5 i6 i7 i8 i9 i10
  · have v1144 : HQ ((0 : Int32)).toInt 0 := HQ.mk (by decide)
    have f1145 := neq32k rfl v1144.out c1136
    exact sFX3_readGrade_133 n hn v_tape_length a_tape_bytes u_20.2.1 u_20.2.2.1 u_20.2.2.2.1 u_20.2.2.2.2.1 u_20.2.2.2.2.2.1 u_20.2.2.2.2.2.2.1 u_20.2.2.2.2.2.2.2.1 u_20.2.2.2.2.2.2.2.2 a_draft_grades a_draft_gradeKinds a_draft_gradePurities a_draft_gradePrices x1 x2 u_20.1 i0 i1 p1131 p1132 p1133 i5 i6 i7 i8 i9 i10
set_option maxHeartbeats 2000000 in
theorem sFX3_readGrade_45 (n : Nat) (hn : n = 3000) (v_tape_length : Int32) (a_tape_bytes : Nat → Int32) (v_fault : Int32) (v_faultPlace : Int32) (v_tape_next : Int32) (v_tape_type : Int32) (v_tape_place : Int32) (v_tape_formerPlace : Int32) (v_tape_word : Int64) (v_tape_number : Int32) (a_draft_grades : Nat → Int32) (a_draft_gradeKinds : Nat → Int32) (a_draft_gradePurities : Nat → Int32) (a_draft_gradePrices : Nat → Int32) (x1 : Int32) (i0 : 0 ≤ (v_tape_length).toInt) (i1 : (v_tape_length).toInt ≤ 1200) (i2 : 0 ≤ (v_tape_next).toInt) (i3 : (v_tape_next).toInt ≤ (v_tape_length).toInt) (i4 : (v_tape_type).toInt = 8 → (0 ≤ (v_tape_number).toInt ∧ (v_tape_number).toInt ≤ 99999)) (i5 : ∀ i : Nat, (i < 4) → (0 ≤ (a_draft_grades i).toInt ∧ (a_draft_grades i).toInt ≤ 4)) (i6 : ∀ i : Nat, (i < 4) → (0 ≤ (a_draft_gradeKinds i).toInt ∧ (a_draft_gradeKinds i).toInt ≤ 4)) (i7 : 0 ≤ (x1).toInt) (i8 : (x1).toInt ≤ 3) : OK (FX3_readGrade_45 n v_tape_length a_tape_bytes v_fault v_faultPlace v_tape_next v_tape_type v_tape_place v_tape_formerPlace v_tape_word v_tape_number a_draft_grades a_draft_gradeKinds a_draft_gradePurities a_draft_gradePrices x1) (fun u => (0 ≤ (u.2.2.2.1).toInt) ∧ ((u.2.2.2.1).toInt ≤ (v_tape_length).toInt) ∧ ((u.2.2.2.2.1).toInt = 8 → (0 ≤ (u.2.2.2.2.2.2.2.2.1).toInt ∧ (u.2.2.2.2.2.2.2.2.1).toInt ≤ 99999)) ∧ (∀ i : Nat, (i < 4) → (0 ≤ (u.2.2.2.2.2.2.2.2.2.1 i).toInt ∧ (u.2.2.2.2.2.2.2.2.2.1 i).toInt ≤ 4)) ∧ (∀ i : Nat, (i < 4) → (0 ≤ (u.2.2.2.2.2.2.2.2.2.2.1 i).toInt ∧ (u.2.2.2.2.2.2.2.2.2.2.1 i).toInt ≤ 4))) := by
  unfold FX3_readGrade_45
  have v1146 : HQ ((4 : Int32)).toInt 4 := HQ.mk (by decide)
  refine OK_bd (sX3_takeNumber n hn v_fault v_faultPlace v_tape_length v_tape_next v_tape_type v_tape_place v_tape_formerPlace v_tape_word v_tape_number a_tape_bytes (4 : Int32) ((v_fault).toInt) (by omega) (by rw [v1146.out]; omega) i0 i1 i2 i3 i4) (fun u_11 p_u_11 => ?_)
  obtain ⟨p1147, p1148, p1149, p1150, p1151, p1152⟩ := p_u_11
  refine OK_if (fun c1153 => ?_) (fun c1153 => ?_)
  · have v1154 : HQ ((0 : Int32)).toInt 0 := HQ.mk (by decide)
    have f1155 := eq32k rfl v1154.out c1153
    refine OK_ck (ckV rfl (by omega) (by omega)) ?_
    refine OK_if (fun c1156 => ?_) (fun c1156 => ?_)
    · obtain ⟨m1157, v1158, f1159⟩ := tnV rfl (by omega)
      have v1160 : HQ ((a_draft_grades ((x1).toNatClampNeg))).toInt (a_draft_grades m1157).toInt := HQ.mk (by rw [v1158.out])
      have f1161 := i5 m1157
      have f1162 := le32k v1160.out v1154.out c1156
      exact sFX3_readGrade_95 n hn v_tape_length a_tape_bytes u_11.2.1 u_11.2.2.1 u_11.2.2.2.1 u_11.2.2.2.2.1 u_11.2.2.2.2.2.1 u_11.2.2.2.2.2.2.1 u_11.2.2.2.2.2.2.2.1 u_11.2.2.2.2.2.2.2.2 a_draft_grades a_draft_gradeKinds a_draft_gradePurities a_draft_gradePrices x1 u_11.1 i0 i1 p1148 p1149 p1150 i5 i6 i7 i8 p1151 (by omega)
    · obtain ⟨m1163, v1164, f1165⟩ := tnV rfl (by omega)
      have v1166 : HQ ((a_draft_grades ((x1).toNatClampNeg))).toInt (a_draft_grades m1163).toInt := HQ.mk (by rw [v1164.out])
      have f1167 := i5 m1163
      have f1168 := nle32k v1166.out v1154.out c1156
      refine OK_ck (ckV rfl (by omega) (by omega)) ?_
      refine OK_if (fun c1169 => ?_) (fun c1169 => ?_)
      · have v1170 : HQ ((a_draft_gradeKinds ((x1).toNatClampNeg))).toInt (a_draft_gradeKinds m1163).toInt := HQ.mk (by rw [v1164.out])
        have f1171 := i6 m1163
        have f1172 := eq32k v1170.out rfl c1169
        exact sFX3_readGrade_95 n hn v_tape_length a_tape_bytes u_11.2.1 u_11.2.2.1 u_11.2.2.2.1 u_11.2.2.2.2.1 u_11.2.2.2.2.2.1 u_11.2.2.2.2.2.2.1 u_11.2.2.2.2.2.2.2.1 u_11.2.2.2.2.2.2.2.2 a_draft_grades a_draft_gradeKinds a_draft_gradePurities a_draft_gradePrices x1 u_11.1 i0 i1 p1148 p1149 p1150 i5 i6 i7 i8 p1151 (by omega)
      · have v1173 : HQ ((a_draft_gradeKinds ((x1).toNatClampNeg))).toInt (a_draft_gradeKinds m1163).toInt := HQ.mk (by rw [v1164.out])
        have f1174 := i6 m1163
        have f1175 := neq32k v1173.out rfl c1169
        have v1176 : HQ ((5 : Int32)).toInt 5 := HQ.mk (by decide)
        refine OK_bd (sX3_fail n hn u_11.2.1 u_11.2.2.1 (5 : Int32) u_11.2.2.2.2.2.2.1 (by rw [v1176.out]; omega)) (fun u_18 p_u_18 => ?_)
        have p1177 := p_u_18
        exact sFX3_readGrade_95 n hn v_tape_length a_tape_bytes u_18.2.1 u_18.2.2 u_11.2.2.2.1 u_11.2.2.2.2.1 u_11.2.2.2.2.2.1 u_11.2.2.2.2.2.2.1 u_11.2.2.2.2.2.2.2.1 u_11.2.2.2.2.2.2.2.2 a_draft_grades a_draft_gradeKinds a_draft_gradePurities a_draft_gradePrices x1 u_11.1 i0 i1 p1148 p1149 p1150 i5 i6 i7 i8 p1151 (by omega)
  · have v1178 : HQ ((0 : Int32)).toInt 0 := HQ.mk (by decide)
    have f1179 := neq32k rfl v1178.out c1153
    exact sFX3_readGrade_95 n hn v_tape_length a_tape_bytes u_11.2.1 u_11.2.2.1 u_11.2.2.2.1 u_11.2.2.2.2.1 u_11.2.2.2.2.2.1 u_11.2.2.2.2.2.2.1 u_11.2.2.2.2.2.2.2.1 u_11.2.2.2.2.2.2.2.2 a_draft_grades a_draft_gradeKinds a_draft_gradePurities a_draft_gradePrices x1 u_11.1 i0 i1 p1148 p1149 p1150 i5 i6 i7 i8 p1151 (by omega)
set_option maxHeartbeats 2000000 in
theorem sX3_readGrade (n : Nat) (hn : n = 3000) (v_fault : Int32) (v_faultPlace : Int32) (v_tape_length : Int32) (v_tape_next : Int32) (v_tape_type : Int32) (v_tape_place : Int32) (v_tape_formerPlace : Int32) (v_tape_word : Int64) (v_tape_number : Int32) (a_tape_bytes : Nat → Int32) (a_draft_grades : Nat → Int32) (a_draft_gradeKinds : Nat → Int32) (a_draft_gradePurities : Nat → Int32) (a_draft_gradePrices : Nat → Int32) (i0 : 0 ≤ (v_tape_length).toInt) (i1 : (v_tape_length).toInt ≤ 1200) (i2 : 0 ≤ (v_tape_next).toInt) (i3 : (v_tape_next).toInt ≤ (v_tape_length).toInt) (i4 : (v_tape_type).toInt = 8 → (0 ≤ (v_tape_number).toInt ∧ (v_tape_number).toInt ≤ 99999)) (i5 : ∀ i : Nat, (i < 4) → (0 ≤ (a_draft_grades i).toInt ∧ (a_draft_grades i).toInt ≤ 4)) (i6 : ∀ i : Nat, (i < 4) → (0 ≤ (a_draft_gradeKinds i).toInt ∧ (a_draft_gradeKinds i).toInt ≤ 4)) : OK (FX3_readGrade n v_fault v_faultPlace v_tape_length v_tape_next v_tape_type v_tape_place v_tape_formerPlace v_tape_word v_tape_number a_tape_bytes a_draft_grades a_draft_gradeKinds a_draft_gradePurities a_draft_gradePrices) (fun u => (0 ≤ (u.2.2.2.1).toInt) ∧ ((u.2.2.2.1).toInt ≤ (v_tape_length).toInt) ∧ ((u.2.2.2.2.1).toInt = 8 → (0 ≤ (u.2.2.2.2.2.2.2.2.1).toInt ∧ (u.2.2.2.2.2.2.2.2.1).toInt ≤ 99999)) ∧ (∀ i : Nat, (i < 4) → (0 ≤ (u.2.2.2.2.2.2.2.2.2.1 i).toInt ∧ (u.2.2.2.2.2.2.2.2.2.1 i).toInt ≤ 4)) ∧ (∀ i : Nat, (i < 4) → (0 ≤ (u.2.2.2.2.2.2.2.2.2.2.1 i).toInt ∧ (u.2.2.2.2.2.2.2.2.2.2.1 i).toInt ≤ 4))) := by
  unfold FX3_readGrade
  refine OK_bd (sX4_advance n hn v_tape_length v_tape_next v_tape_type v_tape_place v_tape_formerPlace v_tape_word v_tape_number a_tape_bytes i0 i1 i2 i3) (fun u_2 p_u_2 => ?_)
  obtain ⟨p1180, p1181, p1182⟩ := p_u_2
  have v1183 : HQ ((3 : Int32)).toInt 3 := HQ.mk (by decide)
  refine OK_bd (sX3_takeNumber n hn v_fault v_faultPlace v_tape_length u_2.2.1 u_2.2.2.1 u_2.2.2.2.1 u_2.2.2.2.2.1 u_2.2.2.2.2.2.1 u_2.2.2.2.2.2.2 a_tape_bytes (3 : Int32) ((v_fault).toInt) (by omega) (by rw [v1183.out]; omega) i0 i1 p1180 p1181 p1182) (fun u_4 p_u_4 => ?_)
  obtain ⟨p1184, p1185, p1186, p1187, p1188, p1189⟩ := p_u_4
  refine OK_if (fun c1190 => ?_) (fun c1190 => ?_)
  · have v1191 : HQ ((0 : Int32)).toInt 0 := HQ.mk (by decide)
    have f1192 := eq32k rfl v1191.out c1190
    refine OK_ck (ckV rfl (by omega) (by omega)) ?_
    refine OK_if (fun c1193 => ?_) (fun c1193 => ?_)
    · obtain ⟨m1194, v1195, f1196⟩ := tnV rfl (by omega)
      have v1197 : HQ ((a_draft_grades ((u_4.1).toNatClampNeg))).toInt (a_draft_grades m1194).toInt := HQ.mk (by rw [v1195.out])
      have f1198 := i5 m1194
      have v1199 : HQ ((4 : Int32)).toInt 4 := HQ.mk (by decide)
      have f1200 := lt32k v1197.out v1199.out c1193
      exact sFX3_readGrade_45 n hn v_tape_length a_tape_bytes u_4.2.1 u_4.2.2.1 u_4.2.2.2.1 u_4.2.2.2.2.1 u_4.2.2.2.2.2.1 u_4.2.2.2.2.2.2.1 u_4.2.2.2.2.2.2.2.1 u_4.2.2.2.2.2.2.2.2 a_draft_grades a_draft_gradeKinds a_draft_gradePurities a_draft_gradePrices u_4.1 i0 i1 p1185 p1186 p1187 i5 i6 p1188 (by omega)
    · obtain ⟨m1201, v1202, f1203⟩ := tnV rfl (by omega)
      have v1204 : HQ ((a_draft_grades ((u_4.1).toNatClampNeg))).toInt (a_draft_grades m1201).toInt := HQ.mk (by rw [v1202.out])
      have f1205 := i5 m1201
      have v1206 : HQ ((4 : Int32)).toInt 4 := HQ.mk (by decide)
      have f1207 := nlt32k v1204.out v1206.out c1193
      have v1208 : HQ ((2 : Int32)).toInt 2 := HQ.mk (by decide)
      refine OK_bd (sX3_fail n hn u_4.2.1 u_4.2.2.1 (2 : Int32) u_4.2.2.2.2.2.2.1 (by rw [v1208.out]; omega)) (fun u_9 p_u_9 => ?_)
      have p1209 := p_u_9
      exact sFX3_readGrade_45 n hn v_tape_length a_tape_bytes u_9.2.1 u_9.2.2 u_4.2.2.2.1 u_4.2.2.2.2.1 u_4.2.2.2.2.2.1 u_4.2.2.2.2.2.2.1 u_4.2.2.2.2.2.2.2.1 u_4.2.2.2.2.2.2.2.2 a_draft_grades a_draft_gradeKinds a_draft_gradePurities a_draft_gradePrices u_4.1 i0 i1 p1185 p1186 p1187 i5 i6 p1188 (by omega)
  · have v1210 : HQ ((0 : Int32)).toInt 0 := HQ.mk (by decide)
    have f1211 := neq32k rfl v1210.out c1190
    exact sFX3_readGrade_45 n hn v_tape_length a_tape_bytes u_4.2.1 u_4.2.2.1 u_4.2.2.2.1 u_4.2.2.2.2.1 u_4.2.2.2.2.2.1 u_4.2.2.2.2.2.2.1 u_4.2.2.2.2.2.2.2.1 u_4.2.2.2.2.2.2.2.2 a_draft_grades a_draft_gradeKinds a_draft_gradePurities a_draft_gradePrices u_4.1 i0 i1 p1185 p1186 p1187 i5 i6 p1188 (by omega)
